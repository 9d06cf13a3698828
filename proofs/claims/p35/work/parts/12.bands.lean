theorem bfor_lt (f : Int → Int) (x : Int) : ∀ (k : Nat) (i j : Int), i ≤ j → j < bfor f x k i → f j < x
  | 0, i, j, h1, h2 => by
    have : j < i := h2
    omega
  | k + 1, i, j, h1, h2 => by
    have h3 : j < (if x ≤ f i then i else bfor f x k (i + 1)) := h2
    by_cases h : x ≤ f i
    · rw [if_pos h] at h3; omega
    · rw [if_neg h] at h3
      by_cases h4 : j = i
      · rw [h4]; omega
      · exact bfor_lt f x k (i + 1) j (by omega) h3
theorem bfor_ge (f : Int → Int) (x : Int) : ∀ (k : Nat) (i : Int), bfor f x k i < i + k → x ≤ f (bfor f x k i)
  | 0, i, h => by
    have : i < i + 0 := h
    omega
  | k + 1, i, h => by
    have h3 : (if x ≤ f i then i else bfor f x k (i + 1)) < i + ((k + 1 : Nat) : Int) := h
    show x ≤ f (if x ≤ f i then i else bfor f x k (i + 1))
    by_cases h2 : x ≤ f i
    · rw [if_pos h2]; exact h2
    · rw [if_neg h2] at h3 ⊢
      exact bfor_ge f x k (i + 1) (by omega)
def bidx (C : Int → Int) (L : Int → Int → Int) (z x : Int) : Int := bfor (bl C L z) x (C z).toNat 0
theorem bidx_b {C : Int → Int} {L : Int → Int → Int} {z x : Int} (h : 0 ≤ C z) : 0 ≤ bidx C L z x ∧ bidx C L z x ≤ C z := by
  have h2 := bfor_b (bl C L z) x (C z).toNat 0
  unfold bidx
  omega
theorem bidx_lt {C : Int → Int} {L : Int → Int → Int} {z x j : Int} (h0 : 0 ≤ j) (h1 : j < bidx C L z x) (h : 0 ≤ C z) : L z j < x := by
  have h2 := bfor_lt (bl C L z) x (C z).toNat 0 j h0 h1
  have h3 := (bidx_b (L := L) (x := x) h).2
  rw [bl_in h0 (by omega)] at h2
  exact h2
theorem bidx_ge {C : Int → Int} {L : Int → Int → Int} {z x : Int} (h0 : 0 ≤ C z) (h : bidx C L z x < C z) : x ≤ L z (bidx C L z x) := by
  have h2 := bfor_ge (bl C L z) x (C z).toNat 0 (by unfold bidx at h; omega)
  have h3 := (bidx_b (L := L) (x := x) h0).1
  change x ≤ bl C L z (bidx C L z x) at h2
  rw [bl_in h3 h] at h2
  exact h2
def begZ (x : Int) : Int := (x + 1000 - 1) / 1000
def baseZ (C E : Int → Int) (L Pr : Int → Int → Int) (z x : Int) : Int := if bidx C L z x < C z then Pr z (bidx C L z x) else Pr z (C z - 1) + begZ (x - L z (C z - 1)) * E z
def brsZ (C : Int → Int) (L : Int → Int → Int) (z x : Int) : Int := if bidx C L z x < C z then 10 + bidx C L z x else 20
def bnlZ (C : Int → Int) (L : Int → Int → Int) (z x : Int) : Int := if bidx C L z x < C z then bl C L z (bidx C L z x - 1) else L z (C z - 1) + (begZ (x - L z (C z - 1)) - 1) * 1000
def cp1 (C2 C : Int → Int) (c : Int) : Int → Int := fun j => if 0 ≤ j ∧ j < c then C2 j else C j
def cp2 (C2 : Int → Int) (L2 L : Int → Int → Int) (c d : Int) : Int → Int → Int := fun a j => if (0 ≤ j ∧ j < C2 a) ∧ (0 ≤ a ∧ a < c ∨ a = c ∧ j < d) then L2 a j else L a j
theorem cp1_s {C2 C : Int → Int} {c : Int} (h : 0 ≤ c) : updZ (cp1 C2 C c) c (C2 c) = cp1 C2 C (c + 1) := by
  funext j
  unfold updZ cp1
  by_cases h1 : j = c
  · rw [if_pos h1, if_pos (by omega), h1]
  · rw [if_neg h1]
    by_cases h2 : 0 ≤ j ∧ j < c
    · rw [if_pos h2, if_pos (by omega)]
    · rw [if_neg h2, if_neg (by omega)]
theorem cp2_s {C2 C : Int → Int} {L2 L : Int → Int → Int} {c d : Int} (hc : 0 ≤ c) (hd : 0 ≤ d) : bput (cp1 C2 C (c + 1)) (cp2 C2 L2 L c d) c d (bl C2 L2 c d) = cp2 C2 L2 L c (d + 1) := by
  have e : cp1 C2 C (c + 1) c = C2 c := if_pos ⟨hc, by omega⟩
  by_cases h : d < C2 c
  · rw [bput_in hd (by rw [e]; exact h), bl_in hd h]
    funext a j
    unfold upd2 cp2
    by_cases h1 : a = c ∧ j = d
    · rw [if_pos h1, if_pos (by rw [h1.1]; omega), h1.1, h1.2]
    · rw [if_neg h1]
      by_cases h2 : (0 ≤ j ∧ j < C2 a) ∧ (0 ≤ a ∧ a < c ∨ a = c ∧ j < d)
      · rw [if_pos h2, if_pos (by omega)]
      · rw [if_neg h2, if_neg (by omega)]
  · rw [bput_out (by rw [e]; omega)]
    funext a j
    unfold cp2
    by_cases h2 : (0 ≤ j ∧ j < C2 a) ∧ (0 ≤ a ∧ a < c ∨ a = c ∧ j < d)
    · rw [if_pos h2, if_pos (by omega)]
    · rw [if_neg h2, if_neg (fun q => h2 ⟨q.1, by
        rcases q.2 with z | z
        · exact Or.inl z
        · refine Or.inr ⟨z.1, ?_⟩
          have := q.1.2
          rw [z.1] at this
          omega⟩)]
theorem cp2_n {C2 : Int → Int} {L2 L : Int → Int → Int} {c : Int} (h : C2 c ≤ 6) (hc : 0 ≤ c) : cp2 C2 L2 L c 6 = cp2 C2 L2 L (c + 1) 0 := by
  funext a j
  unfold cp2
  by_cases h2 : (0 ≤ j ∧ j < C2 a) ∧ (0 ≤ a ∧ a < c ∨ a = c ∧ j < 6)
  · rw [if_pos h2, if_pos ⟨h2.1, by omega⟩]
  · rw [if_neg h2, if_neg (fun q => h2 ⟨q.1, by
      rcases q.2 with z | z
      · by_cases ha : a = c
        · refine Or.inr ⟨ha, ?_⟩
          have := q.1.2
          rw [ha] at this
          omega
        · exact Or.inl (by omega)
      · omega⟩)]
theorem inI_cp2 {C2 : Int → Int} {L2 L : Int → Int → Int} {c d : Int} (h : ∀ a b, inI (L a b)) (h2 : ∀ a b, inI (L2 a b)) : ∀ a b, inI (cp2 C2 L2 L c d a b) := by
  intro a b
  unfold cp2
  split
  · exact h2 a b
  · exact h a b
theorem cp1_0 (C2 C : Int → Int) : cp1 C2 C 0 = C := by
  funext j
  exact if_neg (by omega)
theorem cp2_0 (C2 : Int → Int) (L2 L : Int → Int → Int) : cp2 C2 L2 L 0 0 = L := by
  funext a j
  exact if_neg (by omega)


set_option maxHeartbeats 4000000 in
set_option maxRecDepth 100000 in
theorem c_X0_closeBand {w : gW} {l : Launch} {S : Nat → va_E} {k kc kl kp ke : Nat} {C E : Int → Int} {L Pr : Int → Int → Int} (hk : k < gw_N w) (hkc : kc < gw_N w) (hkl : kl < gw_N w) (hkp : kp < gw_N w) (hke : ke < gw_N w) (ek : S k = OB w kc kl kp ke) (ekc : S kc = AI w 4 C) (ekl : S kl = AT w 24 6 L) (ekp : S kp = AT w 24 6 Pr) (eke : S ke = AI w 4 E) {z i : Int} (hC : bcOK C) (z0 : 0 ≤ z) (z4 : z < 4) (hi : 0 ≤ i) (hi2 : i < C z) (n01 : k ≠ kc) (n02 : k ≠ kl) (n03 : k ≠ kp) (n04 : k ≠ ke) (n12 : kc ≠ kl) (n13 : kc ≠ kp) (n14 : kc ≠ ke) (n23 : kl ≠ kp) (n24 : kl ≠ ke) (n34 : kp ≠ ke) :
    GM0 w l yX0_closeBand wsX0_closeBand { frames := 2, cells := 0, slots := 0, locals := 47 } [.ref (gw_ad w k), vI (z), vI (i)] S
      (fun S' => S' = va_up (va_up (va_up S kl (AT w 24 6 (bclose L z i (C z - 1)))) kp (AT w 24 6 (bclose Pr z i (C z - 1)))) kc (AI w 4 (updZ C z (C z - 1)))) := by
  refine GM.start (own := RX0) (n := "closeBand") (d := "(II)V") (by decide) rfl (Nat.le_of_ble_eq_true rfl) ?_
  intro X hX hR hXl
  subst hXl
  refine g_at rfl (lv2 := [(0, .ref (gw_ad w k)), (1, vI (z)), (2, vI (i))]) rfl rfl rfl ?_
  have hz : inI z := inI_mk (by omega) (by omega)
  have hCz := hC z z0 z4
  refine g_iload_n (pc := 0) hX 2 rfl dX0_closeBand_0 ?_
  refine g_iconst (pc := 1) hX dX0_closeBand_1 ?_
  refine g_iadd (pc := 2) hX dX0_closeBand_2 ?_
  refine g_istore_n (pc := 3) hX (lv2 := [(3, vI (i + 1)), (0, .ref (gw_ad w k)), (1, vI (z)), (2, vI (i))]) rfl (by decide) rfl dX0_closeBand_3 ?_
  have loop : ∀ (n0 : Nat) (c : Int), i ≤ c → c ≤ C z - 1 → C z - 1 - c < n0 → G w { frames := 2, cells := 0, slots := 0, locals := 47 } X 4 4 [(3, vI (c + 1)), (0, .ref (gw_ad w k)), (1, vI (z)), (2, vI (i))] [] (va_up (va_up S kl (AT w 24 6 (bclose L z i c))) kp (AT w 24 6 (bclose Pr z i c))) := by
    intro n0
    induction n0 with
    | zero => intro c h1c h2c h3c; exact absurd h3c (by omega)
    | succ n0 ihloop =>
      intro c h1c h2c h3c 
      have hc : inI c := inI_mk (by omega) (by omega)
      refine g_iload_n (pc := 4) hX 0 rfl dX0_closeBand_4 ?_
      refine g_aload_n (pc := 5) hX 1 rfl dX0_closeBand_5 ?_
      refine g_iload_n (pc := 6) hX 2 rfl dX0_closeBand_6 ?_
      refine g_callV1 (pc := 7) (ci := 0) (As := [vI (z)]) (st2 := [vI (c + 1)]) hX k hk (up_ne n03 (up_ne n02 ek)) rfl (c_X0_bandsOf hk hkc hkl hkp hke (up_ne n03 (up_ne n02 ek)) (up_ne n13 (up_ne n12 ekc)) (up_ne n23 (up_eq _ _ _)) (up_eq _ _ _) (up_ne (Ne.symm n34) (up_ne (Ne.symm n24) eke)) (by omega) (by omega)) gX0_closeBand_X0_bandsOf (n := 1) (hw := rfl) (hrc := rfl) (hrs := rfl) (hd := by decide +kernel) (hR := ⟨Nat.le_of_ble_eq_true rfl, Nat.le_of_ble_eq_true rfl⟩) (hn := rfl) (hst := rfl) (hsum := Nat.le_of_ble_eq_true rfl) (hdg := dX0_closeBand_7) ?_
      rintro _ S9 ⟨rfl, e9⟩
      rw [e9]
      clear e9 S9
      refine g_at (pc2 := 10) rfl rfl (st2 := [vI (C z), vI (c + 1)]) rfl (S2 := (va_up (va_up S kl (AT w 24 6 (bclose L z i c))) kp (AT w 24 6 (bclose Pr z i c)))) rfl ?_
      refine g_icmp_ge (pc := 10) (tgt := 39) hX (by first | assumption | exact inI_mk (by omega) (by omega)) (by first | assumption | exact inI_mk (by omega) (by omega)) dX0_closeBand_10 (by decide) (fun c_10 => ?_) (fun c_10 => ?_)
      · skip
        refine g_iload_n (pc := 39) hX 2 rfl dX0_closeBand_39 ?_
        refine g_aload_n (pc := 40) hX 1 rfl dX0_closeBand_40 ?_
        refine g_get (pc := 41) hX (ci := 0) (fun _ h => List.mem_cons_of_mem _ (List.mem_append_right _ h)) rfl k hk (up_ne n03 (up_ne n02 ek)) 0 (by decide) (List.mem_of_getElem? (i := 1) rfl) rfl (v := .ref (gw_ad w kc)) rfl dX0_closeBand_41 ?_
        refine g_callN1 (pc := 44) (As := [vI (z), .ref (gw_ad w kc)]) (st2 := []) hX (c_X6_isIndex hkc (up_ne n13 (up_ne n12 ekc)) (by decide) (by first | assumption | exact inI_mk (by omega) (by omega))) ggX0_closeBand_X6_isIndex (List.mem_of_getElem? (i := 5) rfl) (List.mem_of_getElem? (i := 7) rfl) (List.mem_of_getElem? (i := 8) rfl) (n := 2) (hw := rfl) (hrc := rfl) (hrs := rfl) (hd := by decide +kernel) (hR := ⟨Nat.le_of_ble_eq_true rfl, Nat.le_of_ble_eq_true rfl⟩) (hn := rfl) (hst := rfl) (hsum := Nat.le_of_ble_eq_true rfl) (hdg := dX0_closeBand_44) ?_
        rintro _ S9 ⟨rfl, e9⟩
        rw [e9]
        clear e9 S9
        refine g_at (pc2 := 47) rfl rfl (st2 := [vI (bz (decide (0 ≤ z ∧ z < (4 : Nat))))]) rfl (S2 := (va_up (va_up S kl (AT w 24 6 (bclose L z i c))) kp (AT w 24 6 (bclose Pr z i c)))) rfl ?_
        refine g_bif_eq (pc := 47) (tgt := 60) hX dX0_closeBand_47 (by decide) (fun c_47 => ?_) (fun c_47 => ?_)
        · skip
          exact absurd c_47 (by rw [Bool.not_eq_false, decide_eq_true_eq]; omega)
        · skip
          refine g_aload_n (pc := 50) hX 1 rfl dX0_closeBand_50 ?_
          refine g_get (pc := 51) hX (ci := 0) (fun _ h => List.mem_cons_of_mem _ (List.mem_append_right _ h)) rfl k hk (up_ne n03 (up_ne n02 ek)) 0 (by decide) (List.mem_of_getElem? (i := 1) rfl) rfl (v := .ref (gw_ad w kc)) rfl dX0_closeBand_51 ?_
          refine g_iload_n (pc := 54) hX 2 rfl dX0_closeBand_54 ?_
          refine g_dup2 (pc := 55) hX rfl rfl dX0_closeBand_55 ?_
          refine g_iald (pc := 56) hX kc hkc (up_ne n13 (up_ne n12 ekc)) (by omega) (by omega) (by decide) dX0_closeBand_56 ?_
          refine g_iconst (pc := 57) hX dX0_closeBand_57 ?_
          refine g_isub (pc := 58) hX dX0_closeBand_58 ?_
          refine g_iast (pc := 59) hX kc hkc (up_ne n13 (up_ne n12 ekc)) (by omega) (by omega) (by decide) dX0_closeBand_59 ?_
          refine g_at rfl rfl rfl (S2 := (va_up (va_up (va_up S kl (AT w 24 6 (bclose L z i c))) kp (AT w 24 6 (bclose Pr z i c))) kc (AI w 4 (updZ (C) (z) ((C z) - 1))))) rfl ?_
          refine g_vret (pc := 60) hX hR dX0_closeBand_60 ?_
          rw [show C z - 1 = c by omega]
      · skip
        refine g_aload_n (pc := 13) hX 1 rfl dX0_closeBand_13 ?_
        refine g_iload_n (pc := 14) hX 2 rfl dX0_closeBand_14 ?_
        refine g_iload_n (pc := 15) hX 0 rfl dX0_closeBand_15 ?_
        refine g_iconst (pc := 16) hX dX0_closeBand_16 ?_
        refine g_isub (pc := 17) hX dX0_closeBand_17 ?_
        refine g_aload_n (pc := 18) hX 1 rfl dX0_closeBand_18 ?_
        refine g_iload_n (pc := 19) hX 2 rfl dX0_closeBand_19 ?_
        refine g_iload_n (pc := 20) hX 0 rfl dX0_closeBand_20 ?_
        refine g_callV1 (pc := 21) (ci := 0) (As := [vI (z), vI (c + 1)]) (st2 := [vI ((c + 1) - 1), vI (z), .ref (gw_ad w k)]) hX k hk (up_ne n03 (up_ne n02 ek)) rfl (c_X0_limitOf hk hkc hkl hkp hke (up_ne n03 (up_ne n02 ek)) (up_ne n13 (up_ne n12 ekc)) (up_ne n23 (up_eq _ _ _)) (up_eq _ _ _) (up_ne (Ne.symm n34) (up_ne (Ne.symm n24) eke)) hC z0 z4 (by first | assumption | exact inI_mk (by omega) (by omega))) gX0_closeBand_X0_limitOf (n := 2) (hw := rfl) (hrc := rfl) (hrs := rfl) (hd := by decide +kernel) (hR := ⟨Nat.le_of_ble_eq_true rfl, Nat.le_of_ble_eq_true rfl⟩) (hn := rfl) (hst := rfl) (hsum := Nat.le_of_ble_eq_true rfl) (hdg := dX0_closeBand_21) ?_
        rintro _ S9 ⟨rfl, e9⟩
        rw [e9]
        clear e9 S9
        refine g_at (pc2 := 24) rfl rfl (st2 := [vI (bl C (bclose L z i c) z (c + 1)), vI ((c + 1) - 1), vI (z), .ref (gw_ad w k)]) rfl (S2 := (va_up (va_up S kl (AT w 24 6 (bclose L z i c))) kp (AT w 24 6 (bclose Pr z i c)))) rfl ?_
        refine g_aload_n (pc := 24) hX 1 rfl dX0_closeBand_24 ?_
        refine g_iload_n (pc := 25) hX 2 rfl dX0_closeBand_25 ?_
        refine g_iload_n (pc := 26) hX 0 rfl dX0_closeBand_26 ?_
        refine g_callV1 (pc := 27) (ci := 0) (As := [vI (z), vI (c + 1)]) (st2 := [vI (bl C (bclose L z i c) z (c + 1)), vI ((c + 1) - 1), vI (z), .ref (gw_ad w k)]) hX k hk (up_ne n03 (up_ne n02 ek)) rfl (c_X0_priceOf hk hkc hkl hkp hke (up_ne n03 (up_ne n02 ek)) (up_ne n13 (up_ne n12 ekc)) (up_ne n23 (up_eq _ _ _)) (up_eq _ _ _) (up_ne (Ne.symm n34) (up_ne (Ne.symm n24) eke)) hC z0 z4 (by first | assumption | exact inI_mk (by omega) (by omega))) gX0_closeBand_X0_priceOf (n := 2) (hw := rfl) (hrc := rfl) (hrs := rfl) (hd := by decide +kernel) (hR := ⟨Nat.le_of_ble_eq_true rfl, Nat.le_of_ble_eq_true rfl⟩) (hn := rfl) (hst := rfl) (hsum := Nat.le_of_ble_eq_true rfl) (hdg := dX0_closeBand_27) ?_
        rintro _ S9 ⟨rfl, e9⟩
        rw [e9]
        clear e9 S9
        refine g_at (pc2 := 30) rfl rfl (st2 := [vI (bl C (bclose Pr z i c) z (c + 1)), vI (bl C (bclose L z i c) z (c + 1)), vI ((c + 1) - 1), vI (z), .ref (gw_ad w k)]) rfl (S2 := (va_up (va_up S kl (AT w 24 6 (bclose L z i c))) kp (AT w 24 6 (bclose Pr z i c)))) rfl ?_
        refine g_callV0 (pc := 30) (ci := 0) (As := [vI (z), vI ((c + 1) - 1), vI (bl C (bclose L z i c) z (c + 1)), vI (bl C (bclose Pr z i c) z (c + 1))]) (st2 := []) hX k hk (up_ne n03 (up_ne n02 ek)) rfl (c_X0_putBand hk hkc hkl hkp hke (up_ne n03 (up_ne n02 ek)) (up_ne n13 (up_ne n12 ekc)) (up_ne n23 (up_eq _ _ _)) (up_eq _ _ _) (up_ne (Ne.symm n34) (up_ne (Ne.symm n24) eke)) hC z0 z4 (by first | assumption | exact inI_mk (by omega) (by omega)) n23) gX0_closeBand_X0_putBand (n := 4) (hw := rfl) (hrc := rfl) (hrs := rfl) (hd := by decide +kernel) (hR := ⟨Nat.le_of_ble_eq_true rfl, Nat.le_of_ble_eq_true rfl⟩) (hn := rfl) (hst := rfl) (hsum := Nat.le_of_ble_eq_true rfl) (hdg := dX0_closeBand_30) ?_
        rintro _ rfl
        refine g_at (pc2 := 33) rfl rfl (st2 := []) rfl (S2 := (va_up (va_up (va_up (va_up S kl (AT w 24 6 (bclose L z i c))) kp (AT w 24 6 (bclose Pr z i c))) kl (AI w 24 ((fl 6 (bput C (bclose L z i c) z ((c + 1) - 1) (bl C (bclose L z i c) z (c + 1))))))) kp (AI w 24 ((fl 6 (bput C (bclose Pr z i c) z ((c + 1) - 1) (bl C (bclose Pr z i c) z (c + 1)))))))) rfl ?_
        refine g_iinc (pc := 33) hX (lv2 := [(3, vI (c + 1 + 1)), (0, .ref (gw_ad w k)), (1, vI (z)), (2, vI (i))]) 0 rfl (by decide) rfl dX0_closeBand_33 ?_
        refine g_goto (pc := 36) (tgt := 4) hX dX0_closeBand_36 (by decide) ?_
        rw [show c + 1 - 1 = c by omega]
        refine g_sub (lv2 := [(3, vI (c + 1 + 1)), (0, .ref (gw_ad w k)), (1, vI (z)), (2, vI (i))]) [0, 1, 2, 3] rfl ?_
        refine g_at rfl (lv2 := [(3, vI ((c + 1) + 1)), (0, .ref (gw_ad w k)), (1, vI (z)), (2, vI (i))]) (rfl) rfl (S2 := (va_up (va_up S kl (AT w 24 6 (bclose L z i (c + 1)))) kp (AT w 24 6 (bclose Pr z i (c + 1))))) (by rw [bclose_s hi h1c (by omega), bclose_s hi h1c (by omega), up_abab n23]) ?_
        exact ihloop (c + 1) (by omega) (by omega) (by omega) 
  refine g_sub (lv2 := [(3, vI (i + 1)), (0, .ref (gw_ad w k)), (1, vI (z)), (2, vI (i))]) [0, 1, 2, 3] rfl ?_
  refine g_at rfl (lv2 := [(3, vI (i + 1)), (0, .ref (gw_ad w k)), (1, vI (z)), (2, vI (i))]) (rfl) rfl (S2 := (va_up (va_up S kl (AT w 24 6 (bclose L z i i))) kp (AT w 24 6 (bclose Pr z i i)))) (by rw [bclose_0, bclose_0, up_self (f := S) ekl, up_self (f := S) ekp]) ?_
  exact loop ((C z - 1 : Int) - i + 1).toNat i (by omega) (by omega) (by omega) 

set_option maxHeartbeats 4000000 in
set_option maxRecDepth 100000 in
theorem c_X0_begunAbove {w : gW} {l : Launch} {S : Nat → va_E} {k kc kl kp ke : Nat} {C E : Int → Int} {L Pr : Int → Int → Int} (hk : k < gw_N w) (hkc : kc < gw_N w) (hkl : kl < gw_N w) (hkp : kp < gw_N w) (hke : ke < gw_N w) (ek : S k = OB w kc kl kp ke) (ekc : S kc = AI w 4 C) (ekl : S kl = AT w 24 6 L) (ekp : S kp = AT w 24 6 Pr) (eke : S ke = AI w 4 E) {z x : Int} (hC : bcOK C) (z0 : 0 ≤ z) (z4 : z < 4) (hc1 : 1 ≤ C z) (hx : inI x) (hl : 0 ≤ L z (C z - 1)) (hlx : L z (C z - 1) ≤ x) :
    GM1 w l yX0_begunAbove wsX0_begunAbove { frames := 2, cells := 0, slots := 0, locals := 45 } [.ref (gw_ad w k), vI (z), vI (x)] S
      (fun v S' => v = vI (begZ (x - L z (C z - 1))) ∧ S' = S) := by
  refine GM.start (own := RX0) (n := "begunAbove") (d := "(II)I") (by decide) rfl (Nat.le_of_ble_eq_true rfl) ?_
  intro X hX hR hXl
  subst hXl
  refine g_at rfl (lv2 := [(0, .ref (gw_ad w k)), (1, vI (z)), (2, vI (x))]) rfl rfl rfl ?_
  have hz : inI z := inI_mk (by omega) (by omega)
  have hCz := hC z z0 z4
  have hbl : bl C L z (C z - 1) = L z (C z - 1) := bl_in (by omega) (by omega)
  have hxA := hx.1; have hxB := hx.2
  refine g_iload_n (pc := 0) hX 2 rfl dX0_begunAbove_0 ?_
  refine g_aload_n (pc := 1) hX 0 rfl dX0_begunAbove_1 ?_
  refine g_iload_n (pc := 2) hX 1 rfl dX0_begunAbove_2 ?_
  refine g_aload_n (pc := 3) hX 0 rfl dX0_begunAbove_3 ?_
  refine g_iload_n (pc := 4) hX 1 rfl dX0_begunAbove_4 ?_
  refine g_callV1 (pc := 5) (ci := 0) (As := [vI (z)]) (st2 := [vI (z), .ref (gw_ad w k), vI (x)]) hX k hk ek rfl (c_X0_bandsOf hk hkc hkl hkp hke ek ekc ekl ekp eke (by omega) (by omega)) gX0_begunAbove_X0_bandsOf (n := 1) (hw := rfl) (hrc := rfl) (hrs := rfl) (hd := by decide +kernel) (hR := ⟨Nat.le_of_ble_eq_true rfl, Nat.le_of_ble_eq_true rfl⟩) (hn := rfl) (hst := rfl) (hsum := Nat.le_of_ble_eq_true rfl) (hdg := dX0_begunAbove_5) ?_
  rintro _ S9 ⟨rfl, e9⟩
  rw [e9]
  clear e9 S9
  refine g_at (pc2 := 8) rfl rfl (st2 := [vI (C z), vI (z), .ref (gw_ad w k), vI (x)]) rfl (S2 := S) rfl ?_
  refine g_iconst (pc := 8) hX dX0_begunAbove_8 ?_
  refine g_isub (pc := 9) hX dX0_begunAbove_9 ?_
  refine g_callV1 (pc := 10) (ci := 0) (As := [vI (z), vI ((C z) - 1)]) (st2 := [vI (x)]) hX k hk ek rfl (c_X0_limitOf hk hkc hkl hkp hke ek ekc ekl ekp eke hC z0 z4 (by first | assumption | exact inI_mk (by omega) (by omega))) gX0_begunAbove_X0_limitOf (n := 2) (hw := rfl) (hrc := rfl) (hrs := rfl) (hd := by decide +kernel) (hR := ⟨Nat.le_of_ble_eq_true rfl, Nat.le_of_ble_eq_true rfl⟩) (hn := rfl) (hst := rfl) (hsum := Nat.le_of_ble_eq_true rfl) (hdg := dX0_begunAbove_10) ?_
  rintro _ S9 ⟨rfl, e9⟩
  rw [e9]
  clear e9 S9
  refine g_at (pc2 := 13) rfl rfl (st2 := [vI (bl C L z ((C z) - 1)), vI (x)]) rfl (S2 := S) rfl ?_
  refine g_isub (pc := 13) hX dX0_begunAbove_13 ?_
  refine g_i2l (pc := 14) hX (by first | assumption | exact inI_mk (by omega) (by omega)) dX0_begunAbove_14 ?_
  refine g_sipush (pc := 15) hX (by decide) dX0_begunAbove_15 ?_
  refine g_callN1 (pc := 18) (As := [vL (x - (bl C L z ((C z) - 1))), vI (1000)]) (st2 := []) hX (c_X6_dividedUp (x := x - (bl C L z ((C z) - 1))) (y := 1000) (by omega) (by omega) (by first | assumption | exact inI_mk (by omega) (by omega)) (by omega)) ggX0_begunAbove_X6_dividedUp (List.mem_of_getElem? (i := 12) rfl) (List.mem_of_getElem? (i := 19) rfl) (List.mem_of_getElem? (i := 8) rfl) (n := 2) (hw := rfl) (hrc := rfl) (hrs := rfl) (hd := by decide +kernel) (hR := ⟨Nat.le_of_ble_eq_true rfl, Nat.le_of_ble_eq_true rfl⟩) (hn := rfl) (hst := rfl) (hsum := Nat.le_of_ble_eq_true rfl) (hdg := dX0_begunAbove_18) ?_
  rintro _ S9 ⟨rfl, e9⟩
  rw [e9]
  clear e9 S9
  refine g_at (pc2 := 21) rfl rfl (st2 := [vI ((x - (bl C L z ((C z) - 1)) + 1000 - 1) / 1000)]) rfl (S2 := S) rfl ?_
  refine g_iret (pc := 21) hX hR dX0_begunAbove_21 ?_
  exact ⟨vI_c (by rw [hbl]; rfl), rfl⟩

set_option maxHeartbeats 4000000 in
set_option maxRecDepth 100000 in
theorem c_X0_base {w : gW} {l : Launch} {S : Nat → va_E} {k kc kl kp ke : Nat} {C E : Int → Int} {L Pr : Int → Int → Int} (hk : k < gw_N w) (hkc : kc < gw_N w) (hkl : kl < gw_N w) (hkp : kp < gw_N w) (hke : ke < gw_N w) (ek : S k = OB w kc kl kp ke) (ekc : S kc = AI w 4 C) (ekl : S kl = AT w 24 6 L) (ekp : S kp = AT w 24 6 Pr) (eke : S ke = AI w 4 E) {t t1 n : Nat} {rm cn : Int} {P : Int → Int → Int} (ht : t < gw_N w) (ht1 : t1 < gw_N w) (et : S t = OT w rm 22 t1 cn) (et1 : S t1 = AT w n 22 P) (hn : rm * 22 ≤ n) (hn2 : n ≤ 2147483647) (hrm : inI rm) {row : Int} (hr0 : 0 ≤ row) (hr1 : row < rm) (hC : bcOK C) {z x : Int} (ez : P row 4 = z) (ex : P row 6 = x) (z0 : 0 ≤ z) (z4 : z < 4) (hx : inI x) (hx0 : 0 ≤ x) (hL : ∀ a b, inI (L a b)) (hc1 : 1 ≤ C z) (hl : 0 ≤ L z (C z - 1)) (h11 : 0 ≤ P row 11) (h119 : P row 11 ≤ 9) (ntt : t ≠ t1) (nt_k : k ≠ t1) (nt_kc : kc ≠ t1) (nt_kl : kl ≠ t1) (nt_kp : kp ≠ t1) (nt_ke : ke ≠ t1) :
    GM1 w l yX0_base wsX0_base { frames := 3, cells := 0, slots := 0, locals := 69 } [.ref (gw_ad w k), .ref (gw_ad w t), vI (row)] S
      (fun v S' => v = vI (baseZ C E L Pr z x) ∧ S' = va_up S t1 (AT w n 22 (rsn P row (brsZ C L z x)))) := by
  refine GM.start (own := RX0) (n := "base") (d := "(LParcelDesk$Table;I)I") (by decide) rfl (Nat.le_of_ble_eq_true rfl) ?_
  intro X hX hR hXl
  subst hXl
  refine g_at rfl (lv2 := [(0, .ref (gw_ad w k)), (1, .ref (gw_ad w t)), (2, vI (row))]) rfl rfl rfl ?_
  have hz : inI z := inI_mk (by omega) (by omega)
  have hCz := hC z z0 z4
  have hrow : inI row := by have := hrm.2; exact inI_mk (by omega) (by omega)
  have hix := bidx_b (L := L) (x := x) hCz.1
  have hxB := hx.2
  have hlt : bidx C L z x = C z → L z (C z - 1) < x := fun h => bidx_lt (by omega) (by omega) hCz.1
  refine g_aload_n (pc := 0) hX 1 rfl dX0_base_0 ?_
  refine g_iload_n (pc := 1) hX 2 rfl dX0_base_1 ?_
  refine g_iconst (pc := 2) hX dX0_base_2 ?_
  refine g_callV1 (pc := 3) (ci := 5) (As := [vI (row), vI (4)]) (st2 := []) hX t ht et rfl (c_X5_cell (row := row) (col := 4) ht ht1 et et1 hn hn2 hrm (by first | assumption | exact inI_mk (by omega) (by omega)) (by first | assumption | exact inI_mk (by omega) (by omega)) (by first | assumption | exact inI_mk (by omega) (by omega))) gX0_base_X5_cell (n := 2) (hw := rfl) (hrc := rfl) (hrs := rfl) (hd := by decide +kernel) (hR := ⟨Nat.le_of_ble_eq_true rfl, Nat.le_of_ble_eq_true rfl⟩) (hn := rfl) (hst := rfl) (hsum := Nat.le_of_ble_eq_true rfl) (hdg := dX0_base_3) ?_
  rintro _ S9 ⟨rfl, e9⟩
  rw [e9]
  clear e9 S9
  rw [tcell_in (by omega) (by omega) (by omega) (by omega)]
  rw [ez]
  refine g_at (pc2 := 6) rfl rfl (st2 := [vI (z)]) rfl (S2 := S) rfl ?_
  refine g_istore_n (pc := 6) hX (lv2 := [(3, vI (z)), (0, .ref (gw_ad w k)), (1, .ref (gw_ad w t)), (2, vI (row))]) rfl (by decide) rfl dX0_base_6 ?_
  refine g_aload_n (pc := 7) hX 2 rfl dX0_base_7 ?_
  refine g_iload_n (pc := 8) hX 3 rfl dX0_base_8 ?_
  refine g_bipush (pc := 9) hX (by decide) dX0_base_9 ?_
  refine g_callV1 (pc := 11) (ci := 5) (As := [vI (row), vI (6)]) (st2 := []) hX t ht et rfl (c_X5_cell (row := row) (col := 6) ht ht1 et et1 hn hn2 hrm (by first | assumption | exact inI_mk (by omega) (by omega)) (by first | assumption | exact inI_mk (by omega) (by omega)) (by first | assumption | exact inI_mk (by omega) (by omega))) gX0_base_X5_cell (n := 2) (hw := rfl) (hrc := rfl) (hrs := rfl) (hd := by decide +kernel) (hR := ⟨Nat.le_of_ble_eq_true rfl, Nat.le_of_ble_eq_true rfl⟩) (hn := rfl) (hst := rfl) (hsum := Nat.le_of_ble_eq_true rfl) (hdg := dX0_base_11) ?_
  rintro _ S9 ⟨rfl, e9⟩
  rw [e9]
  clear e9 S9
  rw [tcell_in (by omega) (by omega) (by omega) (by omega)]
  rw [ex]
  refine g_at (pc2 := 14) rfl rfl (st2 := [vI (x)]) rfl (S2 := S) rfl ?_
  refine g_istore (pc := 14) hX (lv2 := [(4, vI (x)), (3, vI (z)), (0, .ref (gw_ad w k)), (1, .ref (gw_ad w t)), (2, vI (row))]) (by decide) rfl dX0_base_14 ?_
  refine g_aload_n (pc := 16) hX 2 rfl dX0_base_16 ?_
  refine g_iload_n (pc := 17) hX 1 rfl dX0_base_17 ?_
  refine g_iload (pc := 18) hX 0 rfl dX0_base_18 ?_
  refine g_callV1 (pc := 20) (ci := 0) (As := [vI (z), vI (x)]) (st2 := []) hX k hk ek rfl (c_X0_bandFor hk hkc hkl hkp hke ek ekc ekl ekp eke hC z0 z4 (by first | assumption | exact inI_mk (by omega) (by omega)) hL) gX0_base_X0_bandFor (n := 2) (hw := rfl) (hrc := rfl) (hrs := rfl) (hd := by decide +kernel) (hR := ⟨Nat.le_of_ble_eq_true rfl, Nat.le_of_ble_eq_true rfl⟩) (hn := rfl) (hst := rfl) (hsum := Nat.le_of_ble_eq_true rfl) (hdg := dX0_base_20) ?_
  rintro _ S9 ⟨rfl, e9⟩
  rw [e9]
  clear e9 S9
  rw [show bfor (bl C L z) x (C z).toNat 0 = bidx C L z x from rfl]
  refine g_at (pc2 := 23) rfl rfl (st2 := [vI (bidx C L z x)]) rfl (S2 := S) rfl ?_
  refine g_istore (pc := 23) hX (lv2 := [(5, vI (bidx C L z x)), (4, vI (x)), (3, vI (z)), (0, .ref (gw_ad w k)), (1, .ref (gw_ad w t)), (2, vI (row))]) (by decide) rfl dX0_base_23 ?_
  refine g_aload_n (pc := 25) hX 3 rfl dX0_base_25 ?_
  refine g_iload_n (pc := 26) hX 2 rfl dX0_base_26 ?_
  refine g_iload (pc := 27) hX 0 rfl dX0_base_27 ?_
  refine g_callV1 (pc := 29) (ci := 0) (As := [vI (z), vI (bidx C L z x)]) (st2 := []) hX k hk ek rfl (c_X0_hasBand hk hkc hkl hkp hke ek ekc ekl ekp eke hC (by first | assumption | exact inI_mk (by omega) (by omega)) (by first | assumption | exact inI_mk (by omega) (by omega))) gX0_base_X0_hasBand (n := 2) (hw := rfl) (hrc := rfl) (hrs := rfl) (hd := by decide +kernel) (hR := ⟨Nat.le_of_ble_eq_true rfl, Nat.le_of_ble_eq_true rfl⟩) (hn := rfl) (hst := rfl) (hsum := Nat.le_of_ble_eq_true rfl) (hdg := dX0_base_29) ?_
  rintro _ S9 ⟨rfl, e9⟩
  rw [e9]
  clear e9 S9
  refine g_at (pc2 := 32) rfl rfl (st2 := [vI (bz (decide (0 ≤ z ∧ z < 4 ∧ 0 ≤ bidx C L z x ∧ bidx C L z x < C z)))]) rfl (S2 := S) rfl ?_
  refine g_bif_eq (pc := 32) (tgt := 53) hX dX0_base_32 (by decide) (fun c_32 => ?_) (fun c_32 => ?_)
  · skip
    refine g_aload_n (pc := 53) hX 4 rfl dX0_base_53 ?_
    refine g_iload_n (pc := 54) hX 5 rfl dX0_base_54 ?_
    refine g_bipush (pc := 55) hX (by decide) dX0_base_55 ?_
    refine g_callN0 (pc := 57) (As := [.ref (gw_ad w t), vI (row), vI (20)]) (st2 := []) hX (c_X6_addReason (row := row) (x := 20) ht ht1 et et1 hn hn2 hrm hr0 hr1 ntt (by omega) (by omega)) ggX0_base_X6_addReason (List.mem_of_getElem? (i := 11) rfl) (List.mem_of_getElem? (i := 31) rfl) (List.mem_of_getElem? (i := 20) rfl) (n := 3) (hw := rfl) (hrc := rfl) (hrs := rfl) (hd := by decide +kernel) (hR := ⟨Nat.le_of_ble_eq_true rfl, Nat.le_of_ble_eq_true rfl⟩) (hn := rfl) (hst := rfl) (hsum := Nat.le_of_ble_eq_true rfl) (hdg := dX0_base_57) ?_
    rintro _ rfl
    refine g_at (pc2 := 60) rfl rfl (st2 := []) rfl (S2 := (va_up S t1 (AI w n (fl 22 (rsn P row 20))))) rfl ?_
    refine g_aload_n (pc := 60) hX 3 rfl dX0_base_60 ?_
    refine g_iload_n (pc := 61) hX 2 rfl dX0_base_61 ?_
    refine g_iload (pc := 62) hX 0 rfl dX0_base_62 ?_
    refine g_iconst (pc := 64) hX dX0_base_64 ?_
    refine g_isub (pc := 65) hX dX0_base_65 ?_
    refine g_callV1 (pc := 66) (ci := 0) (As := [vI (z), vI ((bidx C L z x) - 1)]) (st2 := []) hX k hk (up_ne nt_k ek) rfl (c_X0_priceOf hk hkc hkl hkp hke (up_ne nt_k ek) (up_ne nt_kc ekc) (up_ne nt_kl ekl) (up_ne nt_kp ekp) (up_ne nt_ke eke) hC z0 z4 (by first | assumption | exact inI_mk (by omega) (by omega))) gX0_base_X0_priceOf (n := 2) (hw := rfl) (hrc := rfl) (hrs := rfl) (hd := by decide +kernel) (hR := ⟨Nat.le_of_ble_eq_true rfl, Nat.le_of_ble_eq_true rfl⟩) (hn := rfl) (hst := rfl) (hsum := Nat.le_of_ble_eq_true rfl) (hdg := dX0_base_66) ?_
    rintro _ S9 ⟨rfl, e9⟩
    rw [e9]
    clear e9 S9
    refine g_at (pc2 := 69) rfl rfl (st2 := [vI (bl C Pr z ((bidx C L z x) - 1))]) rfl (S2 := (va_up S t1 (AI w n (fl 22 (rsn P row 20))))) rfl ?_
    refine g_aload_n (pc := 69) hX 3 rfl dX0_base_69 ?_
    refine g_iload_n (pc := 70) hX 2 rfl dX0_base_70 ?_
    refine g_iload (pc := 71) hX 1 rfl dX0_base_71 ?_
    refine g_callV1 (pc := 73) (ci := 0) (As := [vI (z), vI (x)]) (st2 := [vI (bl C Pr z ((bidx C L z x) - 1))]) hX k hk (up_ne nt_k ek) rfl (c_X0_begunAbove hk hkc hkl hkp hke (up_ne nt_k ek) (up_ne nt_kc ekc) (up_ne nt_kl ekl) (up_ne nt_kp ekp) (up_ne nt_ke eke) hC z0 z4 hc1 hx hl (by simp only [decide_eq_false_iff_not] at c_32; have := hlt (by omega); omega)) gX0_base_X0_begunAbove (n := 2) (hw := rfl) (hrc := rfl) (hrs := rfl) (hd := by decide +kernel) (hR := ⟨Nat.le_of_ble_eq_true rfl, Nat.le_of_ble_eq_true rfl⟩) (hn := rfl) (hst := rfl) (hsum := Nat.le_of_ble_eq_true rfl) (hdg := dX0_base_73) ?_
    rintro _ S9 ⟨rfl, e9⟩
    rw [e9]
    clear e9 S9
    refine g_at (pc2 := 76) rfl rfl (st2 := [vI (begZ (x - L z (C z - 1))), vI (bl C Pr z ((bidx C L z x) - 1))]) rfl (S2 := (va_up S t1 (AI w n (fl 22 (rsn P row 20))))) rfl ?_
    refine g_aload_n (pc := 76) hX 3 rfl dX0_base_76 ?_
    refine g_iload_n (pc := 77) hX 2 rfl dX0_base_77 ?_
    refine g_callV1 (pc := 78) (ci := 0) (As := [vI (z)]) (st2 := [vI (begZ (x - L z (C z - 1))), vI (bl C Pr z ((bidx C L z x) - 1))]) hX k hk (up_ne nt_k ek) rfl (c_X0_extraOf hk hkc hkl hkp hke (up_ne nt_k ek) (up_ne nt_kc ekc) (up_ne nt_kl ekl) (up_ne nt_kp ekp) (up_ne nt_ke eke) (by omega) (by omega)) gX0_base_X0_extraOf (n := 1) (hw := rfl) (hrc := rfl) (hrs := rfl) (hd := by decide +kernel) (hR := ⟨Nat.le_of_ble_eq_true rfl, Nat.le_of_ble_eq_true rfl⟩) (hn := rfl) (hst := rfl) (hsum := Nat.le_of_ble_eq_true rfl) (hdg := dX0_base_78) ?_
    rintro _ S9 ⟨rfl, e9⟩
    rw [e9]
    clear e9 S9
    refine g_at (pc2 := 81) rfl rfl (st2 := [vI (E z), vI (begZ (x - L z (C z - 1))), vI (bl C Pr z ((bidx C L z x) - 1))]) rfl (S2 := (va_up S t1 (AI w n (fl 22 (rsn P row 20))))) rfl ?_
    refine g_imul (pc := 81) hX dX0_base_81 ?_
    refine g_iadd (pc := 82) hX dX0_base_82 ?_
    refine g_iret (pc := 83) hX hR dX0_base_83 ?_
    have hb : ¬ bidx C L z x < C z := by simp only [decide_eq_false_iff_not] at c_32; omega
    refine ⟨vI_c ?_, ?_⟩
    · rw [show bidx C L z x = C z by omega, bl_in (by omega) (by omega)]; exact (if_neg hb).symm
    · rw [show brsZ C L z x = 20 from if_neg hb]
  · skip
    refine g_aload_n (pc := 35) hX 4 rfl dX0_base_35 ?_
    refine g_iload_n (pc := 36) hX 5 rfl dX0_base_36 ?_
    refine g_bipush (pc := 37) hX (by decide) dX0_base_37 ?_
    refine g_iload (pc := 39) hX 0 rfl dX0_base_39 ?_
    refine g_iadd (pc := 41) hX dX0_base_41 ?_
    refine g_callN0 (pc := 42) (As := [.ref (gw_ad w t), vI (row), vI (10 + (bidx C L z x))]) (st2 := []) hX (c_X6_addReason (row := row) (x := 10 + (bidx C L z x)) ht ht1 et et1 hn hn2 hrm hr0 hr1 ntt (by omega) (by omega)) ggX0_base_X6_addReason (List.mem_of_getElem? (i := 11) rfl) (List.mem_of_getElem? (i := 31) rfl) (List.mem_of_getElem? (i := 20) rfl) (n := 3) (hw := rfl) (hrc := rfl) (hrs := rfl) (hd := by decide +kernel) (hR := ⟨Nat.le_of_ble_eq_true rfl, Nat.le_of_ble_eq_true rfl⟩) (hn := rfl) (hst := rfl) (hsum := Nat.le_of_ble_eq_true rfl) (hdg := dX0_base_42) ?_
    rintro _ rfl
    refine g_at (pc2 := 45) rfl rfl (st2 := []) rfl (S2 := (va_up S t1 (AI w n (fl 22 (rsn P row (10 + (bidx C L z x))))))) rfl ?_
    refine g_aload_n (pc := 45) hX 3 rfl dX0_base_45 ?_
    refine g_iload_n (pc := 46) hX 2 rfl dX0_base_46 ?_
    refine g_iload (pc := 47) hX 0 rfl dX0_base_47 ?_
    refine g_callV1 (pc := 49) (ci := 0) (As := [vI (z), vI (bidx C L z x)]) (st2 := []) hX k hk (up_ne nt_k ek) rfl (c_X0_priceOf hk hkc hkl hkp hke (up_ne nt_k ek) (up_ne nt_kc ekc) (up_ne nt_kl ekl) (up_ne nt_kp ekp) (up_ne nt_ke eke) hC z0 z4 (by first | assumption | exact inI_mk (by omega) (by omega))) gX0_base_X0_priceOf (n := 2) (hw := rfl) (hrc := rfl) (hrs := rfl) (hd := by decide +kernel) (hR := ⟨Nat.le_of_ble_eq_true rfl, Nat.le_of_ble_eq_true rfl⟩) (hn := rfl) (hst := rfl) (hsum := Nat.le_of_ble_eq_true rfl) (hdg := dX0_base_49) ?_
    rintro _ S9 ⟨rfl, e9⟩
    rw [e9]
    clear e9 S9
    refine g_at (pc2 := 52) rfl rfl (st2 := [vI (bl C Pr z (bidx C L z x))]) rfl (S2 := (va_up S t1 (AI w n (fl 22 (rsn P row (10 + (bidx C L z x))))))) rfl ?_
    refine g_iret (pc := 52) hX hR dX0_base_52 ?_
    have hb := of_decide_eq_true c_32
    refine ⟨vI_c ?_, ?_⟩
    · rw [bl_in hb.2.2.1 hb.2.2.2]; exact (if_pos hb.2.2.2).symm
    · rw [show brsZ C L z x = 10 + bidx C L z x from if_pos hb.2.2.2]

set_option maxHeartbeats 4000000 in
set_option maxRecDepth 100000 in
theorem c_X0_nextLower {w : gW} {l : Launch} {S : Nat → va_E} {k kc kl kp ke : Nat} {C E : Int → Int} {L Pr : Int → Int → Int} (hk : k < gw_N w) (hkc : kc < gw_N w) (hkl : kl < gw_N w) (hkp : kp < gw_N w) (hke : ke < gw_N w) (ek : S k = OB w kc kl kp ke) (ekc : S kc = AI w 4 C) (ekl : S kl = AT w 24 6 L) (ekp : S kp = AT w 24 6 Pr) (eke : S ke = AI w 4 E) {t t1 n : Nat} {rm cn : Int} {P : Int → Int → Int} (ht : t < gw_N w) (ht1 : t1 < gw_N w) (et : S t = OT w rm 22 t1 cn) (et1 : S t1 = AT w n 22 P) (hn : rm * 22 ≤ n) (hn2 : n ≤ 2147483647) (hrm : inI rm) {row : Int} (hr0 : 0 ≤ row) (hr1 : row < rm) (hC : bcOK C) {z x : Int} (ez : P row 4 = z) (ex : P row 6 = x) (z0 : 0 ≤ z) (z4 : z < 4) (hx : inI x) (hx0 : 0 ≤ x) (hL : ∀ a b, inI (L a b)) (hc1 : 1 ≤ C z) (hl : 0 ≤ L z (C z - 1)) :
    GM1 w l yX0_nextLower wsX0_nextLower { frames := 3, cells := 0, slots := 0, locals := 69 } [.ref (gw_ad w k), .ref (gw_ad w t), vI (row)] S
      (fun v S' => v = vI (bnlZ C L z x) ∧ S' = S) := by
  refine GM.start (own := RX0) (n := "nextLower") (d := "(LParcelDesk$Table;I)I") (by decide) rfl (Nat.le_of_ble_eq_true rfl) ?_
  intro X hX hR hXl
  subst hXl
  refine g_at rfl (lv2 := [(0, .ref (gw_ad w k)), (1, .ref (gw_ad w t)), (2, vI (row))]) rfl rfl rfl ?_
  have hz : inI z := inI_mk (by omega) (by omega)
  have hCz := hC z z0 z4
  have hrow : inI row := by have := hrm.2; exact inI_mk (by omega) (by omega)
  have hix := bidx_b (L := L) (x := x) hCz.1
  have hxB := hx.2
  have hlt : bidx C L z x = C z → L z (C z - 1) < x := fun h => bidx_lt (by omega) (by omega) hCz.1
  refine g_aload_n (pc := 0) hX 1 rfl dX0_nextLower_0 ?_
  refine g_iload_n (pc := 1) hX 2 rfl dX0_nextLower_1 ?_
  refine g_iconst (pc := 2) hX dX0_nextLower_2 ?_
  refine g_callV1 (pc := 3) (ci := 5) (As := [vI (row), vI (4)]) (st2 := []) hX t ht et rfl (c_X5_cell (row := row) (col := 4) ht ht1 et et1 hn hn2 hrm (by first | assumption | exact inI_mk (by omega) (by omega)) (by first | assumption | exact inI_mk (by omega) (by omega)) (by first | assumption | exact inI_mk (by omega) (by omega))) gX0_nextLower_X5_cell (n := 2) (hw := rfl) (hrc := rfl) (hrs := rfl) (hd := by decide +kernel) (hR := ⟨Nat.le_of_ble_eq_true rfl, Nat.le_of_ble_eq_true rfl⟩) (hn := rfl) (hst := rfl) (hsum := Nat.le_of_ble_eq_true rfl) (hdg := dX0_nextLower_3) ?_
  rintro _ S9 ⟨rfl, e9⟩
  rw [e9]
  clear e9 S9
  rw [tcell_in (by omega) (by omega) (by omega) (by omega)]
  rw [ez]
  refine g_at (pc2 := 6) rfl rfl (st2 := [vI (z)]) rfl (S2 := S) rfl ?_
  refine g_istore_n (pc := 6) hX (lv2 := [(3, vI (z)), (0, .ref (gw_ad w k)), (1, .ref (gw_ad w t)), (2, vI (row))]) rfl (by decide) rfl dX0_nextLower_6 ?_
  refine g_aload_n (pc := 7) hX 2 rfl dX0_nextLower_7 ?_
  refine g_iload_n (pc := 8) hX 3 rfl dX0_nextLower_8 ?_
  refine g_bipush (pc := 9) hX (by decide) dX0_nextLower_9 ?_
  refine g_callV1 (pc := 11) (ci := 5) (As := [vI (row), vI (6)]) (st2 := []) hX t ht et rfl (c_X5_cell (row := row) (col := 6) ht ht1 et et1 hn hn2 hrm (by first | assumption | exact inI_mk (by omega) (by omega)) (by first | assumption | exact inI_mk (by omega) (by omega)) (by first | assumption | exact inI_mk (by omega) (by omega))) gX0_nextLower_X5_cell (n := 2) (hw := rfl) (hrc := rfl) (hrs := rfl) (hd := by decide +kernel) (hR := ⟨Nat.le_of_ble_eq_true rfl, Nat.le_of_ble_eq_true rfl⟩) (hn := rfl) (hst := rfl) (hsum := Nat.le_of_ble_eq_true rfl) (hdg := dX0_nextLower_11) ?_
  rintro _ S9 ⟨rfl, e9⟩
  rw [e9]
  clear e9 S9
  rw [tcell_in (by omega) (by omega) (by omega) (by omega)]
  rw [ex]
  refine g_at (pc2 := 14) rfl rfl (st2 := [vI (x)]) rfl (S2 := S) rfl ?_
  refine g_istore (pc := 14) hX (lv2 := [(4, vI (x)), (3, vI (z)), (0, .ref (gw_ad w k)), (1, .ref (gw_ad w t)), (2, vI (row))]) (by decide) rfl dX0_nextLower_14 ?_
  refine g_aload_n (pc := 16) hX 2 rfl dX0_nextLower_16 ?_
  refine g_iload_n (pc := 17) hX 1 rfl dX0_nextLower_17 ?_
  refine g_iload (pc := 18) hX 0 rfl dX0_nextLower_18 ?_
  refine g_callV1 (pc := 20) (ci := 0) (As := [vI (z), vI (x)]) (st2 := []) hX k hk ek rfl (c_X0_bandFor hk hkc hkl hkp hke ek ekc ekl ekp eke hC z0 z4 (by first | assumption | exact inI_mk (by omega) (by omega)) hL) gX0_nextLower_X0_bandFor (n := 2) (hw := rfl) (hrc := rfl) (hrs := rfl) (hd := by decide +kernel) (hR := ⟨Nat.le_of_ble_eq_true rfl, Nat.le_of_ble_eq_true rfl⟩) (hn := rfl) (hst := rfl) (hsum := Nat.le_of_ble_eq_true rfl) (hdg := dX0_nextLower_20) ?_
  rintro _ S9 ⟨rfl, e9⟩
  rw [e9]
  clear e9 S9
  rw [show bfor (bl C L z) x (C z).toNat 0 = bidx C L z x from rfl]
  refine g_at (pc2 := 23) rfl rfl (st2 := [vI (bidx C L z x)]) rfl (S2 := S) rfl ?_
  refine g_istore (pc := 23) hX (lv2 := [(5, vI (bidx C L z x)), (4, vI (x)), (3, vI (z)), (0, .ref (gw_ad w k)), (1, .ref (gw_ad w t)), (2, vI (row))]) (by decide) rfl dX0_nextLower_23 ?_
  refine g_aload_n (pc := 25) hX 3 rfl dX0_nextLower_25 ?_
  refine g_iload_n (pc := 26) hX 2 rfl dX0_nextLower_26 ?_
  refine g_iload (pc := 27) hX 0 rfl dX0_nextLower_27 ?_
  refine g_iconst (pc := 29) hX dX0_nextLower_29 ?_
  refine g_isub (pc := 30) hX dX0_nextLower_30 ?_
  refine g_callV1 (pc := 31) (ci := 0) (As := [vI (z), vI ((bidx C L z x) - 1)]) (st2 := []) hX k hk ek rfl (c_X0_limitOf hk hkc hkl hkp hke ek ekc ekl ekp eke hC z0 z4 (by first | assumption | exact inI_mk (by omega) (by omega))) gX0_nextLower_X0_limitOf (n := 2) (hw := rfl) (hrc := rfl) (hrs := rfl) (hd := by decide +kernel) (hR := ⟨Nat.le_of_ble_eq_true rfl, Nat.le_of_ble_eq_true rfl⟩) (hn := rfl) (hst := rfl) (hsum := Nat.le_of_ble_eq_true rfl) (hdg := dX0_nextLower_31) ?_
  rintro _ S9 ⟨rfl, e9⟩
  rw [e9]
  clear e9 S9
  refine g_at (pc2 := 34) rfl rfl (st2 := [vI (bl C L z ((bidx C L z x) - 1))]) rfl (S2 := S) rfl ?_
  refine g_istore (pc := 34) hX (lv2 := [(6, vI (bl C L z ((bidx C L z x) - 1))), (5, vI (bidx C L z x)), (4, vI (x)), (3, vI (z)), (0, .ref (gw_ad w k)), (1, .ref (gw_ad w t)), (2, vI (row))]) (by decide) rfl dX0_nextLower_34 ?_
  refine g_aload_n (pc := 36) hX 4 rfl dX0_nextLower_36 ?_
  refine g_iload_n (pc := 37) hX 3 rfl dX0_nextLower_37 ?_
  refine g_iload (pc := 38) hX 1 rfl dX0_nextLower_38 ?_
  refine g_callV1 (pc := 40) (ci := 0) (As := [vI (z), vI (bidx C L z x)]) (st2 := []) hX k hk ek rfl (c_X0_hasBand hk hkc hkl hkp hke ek ekc ekl ekp eke hC (by first | assumption | exact inI_mk (by omega) (by omega)) (by first | assumption | exact inI_mk (by omega) (by omega))) gX0_nextLower_X0_hasBand (n := 2) (hw := rfl) (hrc := rfl) (hrs := rfl) (hd := by decide +kernel) (hR := ⟨Nat.le_of_ble_eq_true rfl, Nat.le_of_ble_eq_true rfl⟩) (hn := rfl) (hst := rfl) (hsum := Nat.le_of_ble_eq_true rfl) (hdg := dX0_nextLower_40) ?_
  rintro _ S9 ⟨rfl, e9⟩
  rw [e9]
  clear e9 S9
  refine g_at (pc2 := 43) rfl rfl (st2 := [vI (bz (decide (0 ≤ z ∧ z < 4 ∧ 0 ≤ bidx C L z x ∧ bidx C L z x < C z)))]) rfl (S2 := S) rfl ?_
  refine g_bif_eq (pc := 43) (tgt := 49) hX dX0_nextLower_43 (by decide) (fun c_43 => ?_) (fun c_43 => ?_)
  · skip
    refine g_iload (pc := 49) hX 0 rfl dX0_nextLower_49 ?_
    refine g_aload_n (pc := 51) hX 4 rfl dX0_nextLower_51 ?_
    refine g_iload_n (pc := 52) hX 3 rfl dX0_nextLower_52 ?_
    refine g_iload (pc := 53) hX 2 rfl dX0_nextLower_53 ?_
    refine g_callV1 (pc := 55) (ci := 0) (As := [vI (z), vI (x)]) (st2 := [vI (bl C L z ((bidx C L z x) - 1))]) hX k hk ek rfl (c_X0_begunAbove hk hkc hkl hkp hke ek ekc ekl ekp eke hC z0 z4 hc1 hx hl (by simp only [decide_eq_false_iff_not] at c_43; have := hlt (by omega); omega)) gX0_nextLower_X0_begunAbove (n := 2) (hw := rfl) (hrc := rfl) (hrs := rfl) (hd := by decide +kernel) (hR := ⟨Nat.le_of_ble_eq_true rfl, Nat.le_of_ble_eq_true rfl⟩) (hn := rfl) (hst := rfl) (hsum := Nat.le_of_ble_eq_true rfl) (hdg := dX0_nextLower_55) ?_
    rintro _ S9 ⟨rfl, e9⟩
    rw [e9]
    clear e9 S9
    refine g_at (pc2 := 58) rfl rfl (st2 := [vI (begZ (x - L z (C z - 1))), vI (bl C L z ((bidx C L z x) - 1))]) rfl (S2 := S) rfl ?_
    refine g_iconst (pc := 58) hX dX0_nextLower_58 ?_
    refine g_isub (pc := 59) hX dX0_nextLower_59 ?_
    refine g_sipush (pc := 60) hX (by decide) dX0_nextLower_60 ?_
    refine g_imul (pc := 63) hX dX0_nextLower_63 ?_
    refine g_iadd (pc := 64) hX dX0_nextLower_64 ?_
    refine g_iret (pc := 65) hX hR dX0_nextLower_65 ?_
    have hb : ¬ bidx C L z x < C z := by simp only [decide_eq_false_iff_not] at c_43; omega
    refine ⟨vI_c ?_, rfl⟩
    rw [show bidx C L z x = C z by omega, bl_in (by omega) (by omega)]
    exact (if_neg hb).symm
  · skip
    refine g_iload (pc := 46) hX 0 rfl dX0_nextLower_46 ?_
    refine g_iret (pc := 48) hX hR dX0_nextLower_48 ?_
    have hb := of_decide_eq_true c_43
    exact ⟨vI_c (if_pos hb.2.2.2).symm, rfl⟩

set_option maxHeartbeats 4000000 in
set_option maxRecDepth 100000 in
theorem c_X0_copyFrom {w : gW} {l : Launch} {S : Nat → va_E} {k kc kl kp ke : Nat} {C E : Int → Int} {L Pr : Int → Int → Int} (hk : k < gw_N w) (hkc : kc < gw_N w) (hkl : kl < gw_N w) (hkp : kp < gw_N w) (hke : ke < gw_N w) (ek : S k = OB w kc kl kp ke) (ekc : S kc = AI w 4 C) (ekl : S kl = AT w 24 6 L) (ekp : S kp = AT w 24 6 Pr) (eke : S ke = AI w 4 E) {q qc ql qp qe : Nat} {C2 E2 : Int → Int} {L2 Pr2 : Int → Int → Int} (hq : q < gw_N w) (hqc : qc < gw_N w) (hql : ql < gw_N w) (hqp : qp < gw_N w) (hqe : qe < gw_N w) (eq : S q = OB w qc ql qp qe) (eqc : S qc = AI w 4 C2) (eql : S ql = AT w 24 6 L2) (eqp : S qp = AT w 24 6 Pr2) (eqe : S qe = AI w 4 E2) (hC0 : bcOK C) (hC2 : bcOK C2) (hL : ∀ a b, inI (L2 a b)) (n01 : k ≠ kc) (n02 : k ≠ kl) (n03 : k ≠ kp) (n04 : k ≠ ke) (n12 : kc ≠ kl) (n13 : kc ≠ kp) (n14 : kc ≠ ke) (n23 : kl ≠ kp) (n24 : kl ≠ ke) (n34 : kp ≠ ke) (n_q_kc : q ≠ kc) (n_q_kl : q ≠ kl) (n_q_kp : q ≠ kp) (n_q_ke : q ≠ ke) (n_qc_kc : qc ≠ kc) (n_qc_kl : qc ≠ kl) (n_qc_kp : qc ≠ kp) (n_qc_ke : qc ≠ ke) (n_ql_kc : ql ≠ kc) (n_ql_kl : ql ≠ kl) (n_ql_kp : ql ≠ kp) (n_ql_ke : ql ≠ ke) (n_qp_kc : qp ≠ kc) (n_qp_kl : qp ≠ kl) (n_qp_kp : qp ≠ kp) (n_qp_ke : qp ≠ ke) (n_qe_kc : qe ≠ kc) (n_qe_kl : qe ≠ kl) (n_qe_kp : qe ≠ kp) (n_qe_ke : qe ≠ ke) :
    GM0 w l yX0_copyFrom wsX0_copyFrom { frames := 2, cells := 0, slots := 0, locals := 47 } [.ref (gw_ad w k), .ref (gw_ad w q)] S
      (fun S' => (∀ q : Nat, q ≠ kc → q ≠ kl → q ≠ kp → q ≠ ke → S' q = S q) ∧ S' kc = AI w 4 (cp1 C2 C 4) ∧ S' kl = AT w 24 6 (cp2 C2 L2 L 4 0) ∧ S' kp = AT w 24 6 (cp2 C2 Pr2 Pr 4 0) ∧ S' ke = AI w 4 (cp1 E2 E 4)) := by
  refine GM.start (own := RX0) (n := "copyFrom") (d := "(LParcelDesk$Bands;)V") (by decide) rfl (Nat.le_of_ble_eq_true rfl) ?_
  intro X hX hR hXl
  subst hXl
  refine g_at rfl (lv2 := [(0, .ref (gw_ad w k)), (1, .ref (gw_ad w q))]) rfl rfl rfl ?_
  refine g_iconst (pc := 0) hX dX0_copyFrom_0 ?_
  refine g_istore_n (pc := 1) hX (lv2 := [(2, vI (0)), (0, .ref (gw_ad w k)), (1, .ref (gw_ad w q))]) rfl (by decide) rfl dX0_copyFrom_1 ?_
  have lo : ∀ (n0 : Nat) (c : Int) (Slo : Nat → va_E), 0 ≤ c → c ≤ 4 → 4 - c < n0 → (∀ q : Nat, q ≠ kc → q ≠ kl → q ≠ kp → q ≠ ke → Slo q = S q) → (Slo kc = AI w 4 (cp1 C2 C c)) → (Slo kl = AI w 24 ((fl 6 (cp2 C2 L2 L c 0)))) → (Slo kp = AI w 24 ((fl 6 (cp2 C2 Pr2 Pr c 0)))) → (Slo ke = AI w 4 (cp1 E2 E c)) → G w { frames := 2, cells := 0, slots := 0, locals := 47 } X 4 2 [(2, vI (c)), (0, .ref (gw_ad w k)), (1, .ref (gw_ad w q))] [] Slo := by
    intro n0
    induction n0 with
    | zero => intro c Slo h1c h2c h3c; exact absurd h3c (by omega)
    | succ n0 ihlo =>
      intro c Slo h1c h2c h3c  hflo elo_kc elo_kl elo_kp elo_ke
      have hc : inI c := inI_mk (by omega) (by omega)
      refine g_iload_n (pc := 2) hX 0 rfl dX0_copyFrom_2 ?_
      refine g_iconst (pc := 3) hX dX0_copyFrom_3 ?_
      refine g_icmp_ge (pc := 4) (tgt := 77) hX (by first | assumption | exact inI_mk (by omega) (by omega)) (by first | assumption | exact inI_mk (by omega) (by omega)) dX0_copyFrom_4 (by decide) (fun c_4 => ?_) (fun c_4 => ?_)
      · skip
        refine g_vret (pc := 77) hX hR dX0_copyFrom_77 ?_
        rw [show c = 4 by omega] at elo_kc elo_kl elo_kp elo_ke
        exact ⟨(fun q a0 a1 a2 a3 => (hflo q a0 a1 a2 a3)), elo_kc, elo_kl, elo_kp, elo_ke⟩
      · skip
        refine g_iload_n (pc := 7) hX 0 rfl dX0_copyFrom_7 ?_
        refine g_aload_n (pc := 8) hX 1 rfl dX0_copyFrom_8 ?_
        refine g_get (pc := 9) hX (ci := 0) (fun _ h => List.mem_cons_of_mem _ (List.mem_append_right _ h)) rfl k hk ((hflo k n01 n02 n03 n04).trans ek) 0 (by decide) (List.mem_of_getElem? (i := 1) rfl) rfl (v := .ref (gw_ad w kc)) rfl dX0_copyFrom_9 ?_
        refine g_callN1 (pc := 12) (As := [vI (c), .ref (gw_ad w kc)]) (st2 := []) hX (c_X6_isIndex hkc elo_kc (by decide) (by first | assumption | exact inI_mk (by omega) (by omega))) ggX0_copyFrom_X6_isIndex (List.mem_of_getElem? (i := 5) rfl) (List.mem_of_getElem? (i := 2) rfl) (List.mem_of_getElem? (i := 3) rfl) (n := 2) (hw := rfl) (hrc := rfl) (hrs := rfl) (hd := by decide +kernel) (hR := ⟨Nat.le_of_ble_eq_true rfl, Nat.le_of_ble_eq_true rfl⟩) (hn := rfl) (hst := rfl) (hsum := Nat.le_of_ble_eq_true rfl) (hdg := dX0_copyFrom_12) ?_
        rintro _ S9 ⟨rfl, e9⟩
        rw [e9]
        clear e9 S9
        refine g_at (pc2 := 15) rfl rfl (st2 := [vI (bz (decide (0 ≤ c ∧ c < (4 : Nat))))]) rfl (S2 := Slo) rfl ?_
        refine g_bif_eq (pc := 15) (tgt := 29) hX dX0_copyFrom_15 (by decide) (fun c_15 => ?_) (fun c_15 => ?_)
        · skip
          exact absurd c_15 (by rw [Bool.not_eq_false, decide_eq_true_eq]; omega)
        · skip
          refine g_aload_n (pc := 18) hX 1 rfl dX0_copyFrom_18 ?_
          refine g_get (pc := 19) hX (ci := 0) (fun _ h => List.mem_cons_of_mem _ (List.mem_append_right _ h)) rfl k hk ((hflo k n01 n02 n03 n04).trans ek) 0 (by decide) (List.mem_of_getElem? (i := 1) rfl) rfl (v := .ref (gw_ad w kc)) rfl dX0_copyFrom_19 ?_
          refine g_iload_n (pc := 22) hX 0 rfl dX0_copyFrom_22 ?_
          refine g_aload_n (pc := 23) hX 2 rfl dX0_copyFrom_23 ?_
          refine g_iload_n (pc := 24) hX 0 rfl dX0_copyFrom_24 ?_
          refine g_callV1 (pc := 25) (ci := 0) (As := [vI (c)]) (st2 := [vI (c), .ref (gw_ad w kc)]) hX q hq ((hflo q n_q_kc n_q_kl n_q_kp n_q_ke).trans eq) rfl (c_X0_bandsOf hq hqc hql hqp hqe ((hflo q n_q_kc n_q_kl n_q_kp n_q_ke).trans eq) ((hflo qc n_qc_kc n_qc_kl n_qc_kp n_qc_ke).trans eqc) ((hflo ql n_ql_kc n_ql_kl n_ql_kp n_ql_ke).trans eql) ((hflo qp n_qp_kc n_qp_kl n_qp_kp n_qp_ke).trans eqp) ((hflo qe n_qe_kc n_qe_kl n_qe_kp n_qe_ke).trans eqe) (by omega) (by omega)) gX0_copyFrom_X0_bandsOf (n := 1) (hw := rfl) (hrc := rfl) (hrs := rfl) (hd := by decide +kernel) (hR := ⟨Nat.le_of_ble_eq_true rfl, Nat.le_of_ble_eq_true rfl⟩) (hn := rfl) (hst := rfl) (hsum := Nat.le_of_ble_eq_true rfl) (hdg := dX0_copyFrom_25) ?_
          rintro _ S9 ⟨rfl, e9⟩
          rw [e9]
          clear e9 S9
          refine g_at (pc2 := 28) rfl rfl (st2 := [vI (C2 c), vI (c), .ref (gw_ad w kc)]) rfl (S2 := Slo) rfl ?_
          refine g_iast (pc := 28) hX kc hkc elo_kc (by omega) (by omega) (by decide) dX0_copyFrom_28 ?_
          refine g_at rfl rfl rfl (S2 := (va_up Slo kc (AI w 4 (updZ (cp1 C2 C c) (c) (C2 c))))) rfl ?_
          refine g_iconst (pc := 29) hX dX0_copyFrom_29 ?_
          refine g_istore_n (pc := 30) hX (lv2 := [(3, vI (0)), (2, vI (c)), (0, .ref (gw_ad w k)), (1, .ref (gw_ad w q))]) rfl (by decide) rfl dX0_copyFrom_30 ?_
          have li : ∀ (n0 : Nat) (d : Int) (Sli : Nat → va_E), 0 ≤ d → d ≤ 6 → 6 - d < n0 → (∀ q : Nat, q ≠ kc → q ≠ kl → q ≠ kp → q ≠ ke → Sli q = (va_up Slo kc (AI w 4 (updZ (cp1 C2 C c) (c) (C2 c)))) q) → (Sli kc = AI w 4 (cp1 C2 C (c + 1))) → (Sli kl = AI w 24 ((fl 6 (cp2 C2 L2 L c d)))) → (Sli kp = AI w 24 ((fl 6 (cp2 C2 Pr2 Pr c d)))) → (Sli ke = AI w 4 (cp1 E2 E c)) → G w { frames := 2, cells := 0, slots := 0, locals := 47 } X 4 31 [(3, vI (d)), (0, .ref (gw_ad w k)), (1, .ref (gw_ad w q)), (2, vI (c))] [] Sli := by
            intro n0
            induction n0 with
            | zero => intro d Sli h1d h2d h3d; exact absurd h3d (by omega)
            | succ n0 ihli =>
              intro d Sli h1d h2d h3d  hfli eli_kc eli_kl eli_kp eli_ke
              have hd : inI d := inI_mk (by omega) (by omega)
              have hC : bcOK (cp1 C2 C (c + 1)) := by
                intro a h1 h2
                unfold cp1
                split
                · exact hC2 a h1 h2
                · exact hC0 a h1 h2
              refine g_iload_n (pc := 31) hX 0 rfl dX0_copyFrom_31 ?_
              refine g_bipush (pc := 32) hX (by decide) dX0_copyFrom_32 ?_
              refine g_icmp_ge (pc := 34) (tgt := 61) hX (by first | assumption | exact inI_mk (by omega) (by omega)) (by first | assumption | exact inI_mk (by omega) (by omega)) dX0_copyFrom_34 (by decide) (fun c_34 => ?_) (fun c_34 => ?_)
              · skip
                refine g_aload_n (pc := 61) hX 1 rfl dX0_copyFrom_61 ?_
                refine g_iload_n (pc := 62) hX 3 rfl dX0_copyFrom_62 ?_
                refine g_aload_n (pc := 63) hX 2 rfl dX0_copyFrom_63 ?_
                refine g_iload_n (pc := 64) hX 3 rfl dX0_copyFrom_64 ?_
                refine g_callV1 (pc := 65) (ci := 0) (As := [vI (c)]) (st2 := [vI (c), .ref (gw_ad w k)]) hX q hq ((hfli q n_q_kc n_q_kl n_q_kp n_q_ke).trans (up_ne n_q_kc ((hflo q n_q_kc n_q_kl n_q_kp n_q_ke).trans eq))) rfl (c_X0_extraOf hq hqc hql hqp hqe ((hfli q n_q_kc n_q_kl n_q_kp n_q_ke).trans (up_ne n_q_kc ((hflo q n_q_kc n_q_kl n_q_kp n_q_ke).trans eq))) ((hfli qc n_qc_kc n_qc_kl n_qc_kp n_qc_ke).trans (up_ne n_qc_kc ((hflo qc n_qc_kc n_qc_kl n_qc_kp n_qc_ke).trans eqc))) ((hfli ql n_ql_kc n_ql_kl n_ql_kp n_ql_ke).trans (up_ne n_ql_kc ((hflo ql n_ql_kc n_ql_kl n_ql_kp n_ql_ke).trans eql))) ((hfli qp n_qp_kc n_qp_kl n_qp_kp n_qp_ke).trans (up_ne n_qp_kc ((hflo qp n_qp_kc n_qp_kl n_qp_kp n_qp_ke).trans eqp))) ((hfli qe n_qe_kc n_qe_kl n_qe_kp n_qe_ke).trans (up_ne n_qe_kc ((hflo qe n_qe_kc n_qe_kl n_qe_kp n_qe_ke).trans eqe))) (by omega) (by omega)) gX0_copyFrom_X0_extraOf (n := 1) (hw := rfl) (hrc := rfl) (hrs := rfl) (hd := by decide +kernel) (hR := ⟨Nat.le_of_ble_eq_true rfl, Nat.le_of_ble_eq_true rfl⟩) (hn := rfl) (hst := rfl) (hsum := Nat.le_of_ble_eq_true rfl) (hdg := dX0_copyFrom_65) ?_
                rintro _ S9 ⟨rfl, e9⟩
                rw [e9]
                clear e9 S9
                refine g_at (pc2 := 68) rfl rfl (st2 := [vI (E2 c), vI (c), .ref (gw_ad w k)]) rfl (S2 := Sli) rfl ?_
                refine g_callV0 (pc := 68) (ci := 0) (As := [vI (c), vI (E2 c)]) (st2 := []) hX k hk ((hfli k n01 n02 n03 n04).trans (up_ne n01 ((hflo k n01 n02 n03 n04).trans ek))) rfl (c_X0_putExtra hk hkc hkl hkp hke ((hfli k n01 n02 n03 n04).trans (up_ne n01 ((hflo k n01 n02 n03 n04).trans ek))) eli_kc eli_kl eli_kp eli_ke (by omega) (by omega)) gX0_copyFrom_X0_putExtra (n := 2) (hw := rfl) (hrc := rfl) (hrs := rfl) (hd := by decide +kernel) (hR := ⟨Nat.le_of_ble_eq_true rfl, Nat.le_of_ble_eq_true rfl⟩) (hn := rfl) (hst := rfl) (hsum := Nat.le_of_ble_eq_true rfl) (hdg := dX0_copyFrom_68) ?_
                rintro _ rfl
                refine g_at (pc2 := 71) rfl rfl (st2 := []) rfl (S2 := (va_up Sli ke (AI w 4 (updZ (cp1 E2 E c) c (E2 c))))) rfl ?_
                refine g_iinc (pc := 71) hX (lv2 := [(2, vI (c + 1)), (3, vI (d)), (0, .ref (gw_ad w k)), (1, .ref (gw_ad w q))]) 3 rfl (by decide) rfl dX0_copyFrom_71 ?_
                refine g_goto (pc := 74) (tgt := 2) hX dX0_copyFrom_74 (by decide) ?_
                refine g_sub (lv2 := [(2, vI (c + 1)), (0, .ref (gw_ad w k)), (1, .ref (gw_ad w q))]) [0, 2, 3] rfl ?_
                refine g_at rfl (lv2 := [(2, vI (c + 1)), (0, .ref (gw_ad w k)), (1, .ref (gw_ad w q))]) (rfl) rfl rfl ?_
                exact ihlo (c + 1) _ (by omega) (by omega) (by omega)  (fun q a0 a1 a2 a3 => (up_ne a3 ((hfli q a0 a1 a2 a3).trans (up_ne a0 (hflo q a0 a1 a2 a3))))) (up_ne n14 eli_kc) ((up_ne n24 eli_kl).trans (by rw [show d = 6 by omega, cp2_n (hC2 c (by omega) (by omega)).2 h1c])) ((up_ne n34 eli_kp).trans (by rw [show d = 6 by omega, cp2_n (hC2 c (by omega) (by omega)).2 h1c])) ((up_eq _ _ _).trans (by rw [cp1_s h1c]))
              · skip
                refine g_aload_n (pc := 37) hX 1 rfl dX0_copyFrom_37 ?_
                refine g_iload_n (pc := 38) hX 3 rfl dX0_copyFrom_38 ?_
                refine g_iload_n (pc := 39) hX 0 rfl dX0_copyFrom_39 ?_
                refine g_aload_n (pc := 40) hX 2 rfl dX0_copyFrom_40 ?_
                refine g_iload_n (pc := 41) hX 3 rfl dX0_copyFrom_41 ?_
                refine g_iload_n (pc := 42) hX 0 rfl dX0_copyFrom_42 ?_
                refine g_callV1 (pc := 43) (ci := 0) (As := [vI (c), vI (d)]) (st2 := [vI (d), vI (c), .ref (gw_ad w k)]) hX q hq ((hfli q n_q_kc n_q_kl n_q_kp n_q_ke).trans (up_ne n_q_kc ((hflo q n_q_kc n_q_kl n_q_kp n_q_ke).trans eq))) rfl (c_X0_limitOf hq hqc hql hqp hqe ((hfli q n_q_kc n_q_kl n_q_kp n_q_ke).trans (up_ne n_q_kc ((hflo q n_q_kc n_q_kl n_q_kp n_q_ke).trans eq))) ((hfli qc n_qc_kc n_qc_kl n_qc_kp n_qc_ke).trans (up_ne n_qc_kc ((hflo qc n_qc_kc n_qc_kl n_qc_kp n_qc_ke).trans eqc))) ((hfli ql n_ql_kc n_ql_kl n_ql_kp n_ql_ke).trans (up_ne n_ql_kc ((hflo ql n_ql_kc n_ql_kl n_ql_kp n_ql_ke).trans eql))) ((hfli qp n_qp_kc n_qp_kl n_qp_kp n_qp_ke).trans (up_ne n_qp_kc ((hflo qp n_qp_kc n_qp_kl n_qp_kp n_qp_ke).trans eqp))) ((hfli qe n_qe_kc n_qe_kl n_qe_kp n_qe_ke).trans (up_ne n_qe_kc ((hflo qe n_qe_kc n_qe_kl n_qe_kp n_qe_ke).trans eqe))) hC2 (by omega) (by omega) (by first | assumption | exact inI_mk (by omega) (by omega))) gX0_copyFrom_X0_limitOf (n := 2) (hw := rfl) (hrc := rfl) (hrs := rfl) (hd := by decide +kernel) (hR := ⟨Nat.le_of_ble_eq_true rfl, Nat.le_of_ble_eq_true rfl⟩) (hn := rfl) (hst := rfl) (hsum := Nat.le_of_ble_eq_true rfl) (hdg := dX0_copyFrom_43) ?_
                rintro _ S9 ⟨rfl, e9⟩
                rw [e9]
                clear e9 S9
                refine g_at (pc2 := 46) rfl rfl (st2 := [vI (bl C2 L2 c d), vI (d), vI (c), .ref (gw_ad w k)]) rfl (S2 := Sli) rfl ?_
                refine g_aload_n (pc := 46) hX 2 rfl dX0_copyFrom_46 ?_
                refine g_iload_n (pc := 47) hX 3 rfl dX0_copyFrom_47 ?_
                refine g_iload_n (pc := 48) hX 0 rfl dX0_copyFrom_48 ?_
                refine g_callV1 (pc := 49) (ci := 0) (As := [vI (c), vI (d)]) (st2 := [vI (bl C2 L2 c d), vI (d), vI (c), .ref (gw_ad w k)]) hX q hq ((hfli q n_q_kc n_q_kl n_q_kp n_q_ke).trans (up_ne n_q_kc ((hflo q n_q_kc n_q_kl n_q_kp n_q_ke).trans eq))) rfl (c_X0_priceOf hq hqc hql hqp hqe ((hfli q n_q_kc n_q_kl n_q_kp n_q_ke).trans (up_ne n_q_kc ((hflo q n_q_kc n_q_kl n_q_kp n_q_ke).trans eq))) ((hfli qc n_qc_kc n_qc_kl n_qc_kp n_qc_ke).trans (up_ne n_qc_kc ((hflo qc n_qc_kc n_qc_kl n_qc_kp n_qc_ke).trans eqc))) ((hfli ql n_ql_kc n_ql_kl n_ql_kp n_ql_ke).trans (up_ne n_ql_kc ((hflo ql n_ql_kc n_ql_kl n_ql_kp n_ql_ke).trans eql))) ((hfli qp n_qp_kc n_qp_kl n_qp_kp n_qp_ke).trans (up_ne n_qp_kc ((hflo qp n_qp_kc n_qp_kl n_qp_kp n_qp_ke).trans eqp))) ((hfli qe n_qe_kc n_qe_kl n_qe_kp n_qe_ke).trans (up_ne n_qe_kc ((hflo qe n_qe_kc n_qe_kl n_qe_kp n_qe_ke).trans eqe))) hC2 (by omega) (by omega) (by first | assumption | exact inI_mk (by omega) (by omega))) gX0_copyFrom_X0_priceOf (n := 2) (hw := rfl) (hrc := rfl) (hrs := rfl) (hd := by decide +kernel) (hR := ⟨Nat.le_of_ble_eq_true rfl, Nat.le_of_ble_eq_true rfl⟩) (hn := rfl) (hst := rfl) (hsum := Nat.le_of_ble_eq_true rfl) (hdg := dX0_copyFrom_49) ?_
                rintro _ S9 ⟨rfl, e9⟩
                rw [e9]
                clear e9 S9
                refine g_at (pc2 := 52) rfl rfl (st2 := [vI (bl C2 Pr2 c d), vI (bl C2 L2 c d), vI (d), vI (c), .ref (gw_ad w k)]) rfl (S2 := Sli) rfl ?_
                refine g_callV0 (pc := 52) (ci := 0) (As := [vI (c), vI (d), vI (bl C2 L2 c d), vI (bl C2 Pr2 c d)]) (st2 := []) hX k hk ((hfli k n01 n02 n03 n04).trans (up_ne n01 ((hflo k n01 n02 n03 n04).trans ek))) rfl (c_X0_putBand hk hkc hkl hkp hke ((hfli k n01 n02 n03 n04).trans (up_ne n01 ((hflo k n01 n02 n03 n04).trans ek))) eli_kc eli_kl eli_kp eli_ke hC (by omega) (by omega) (by first | assumption | exact inI_mk (by omega) (by omega)) n23) gX0_copyFrom_X0_putBand (n := 4) (hw := rfl) (hrc := rfl) (hrs := rfl) (hd := by decide +kernel) (hR := ⟨Nat.le_of_ble_eq_true rfl, Nat.le_of_ble_eq_true rfl⟩) (hn := rfl) (hst := rfl) (hsum := Nat.le_of_ble_eq_true rfl) (hdg := dX0_copyFrom_52) ?_
                rintro _ rfl
                refine g_at (pc2 := 55) rfl rfl (st2 := []) rfl (S2 := (va_up (va_up Sli kl (AI w 24 ((fl 6 (bput (cp1 C2 C (c + 1)) (cp2 C2 L2 L c d) c d (bl C2 L2 c d)))))) kp (AI w 24 ((fl 6 (bput (cp1 C2 C (c + 1)) (cp2 C2 Pr2 Pr c d) c d (bl C2 Pr2 c d))))))) rfl ?_
                refine g_iinc (pc := 55) hX (lv2 := [(3, vI (d + 1)), (0, .ref (gw_ad w k)), (1, .ref (gw_ad w q)), (2, vI (c))]) 0 rfl (by decide) rfl dX0_copyFrom_55 ?_
                refine g_goto (pc := 58) (tgt := 31) hX dX0_copyFrom_58 (by decide) ?_
                refine g_sub (lv2 := [(3, vI (d + 1)), (0, .ref (gw_ad w k)), (1, .ref (gw_ad w q)), (2, vI (c))]) [0, 1, 2, 3] rfl ?_
                refine g_at rfl (lv2 := [(3, vI (d + 1)), (0, .ref (gw_ad w k)), (1, .ref (gw_ad w q)), (2, vI (c))]) (rfl) rfl rfl ?_
                exact ihli (d + 1) _ (by omega) (by omega) (by omega)  (fun q a0 a1 a2 a3 => (up_ne a2 (up_ne a1 (hfli q a0 a1 a2 a3)))) (up_ne n13 (up_ne n12 eli_kc)) ((up_ne n23 (up_eq _ _ _)).trans (by rw [cp2_s h1c h1d])) ((up_eq _ _ _).trans (by rw [cp2_s h1c h1d])) (up_ne (Ne.symm n34) (up_ne (Ne.symm n24) eli_ke))
          refine g_sub (lv2 := [(3, vI (0)), (0, .ref (gw_ad w k)), (1, .ref (gw_ad w q)), (2, vI (c))]) [0, 2, 3, 1] rfl ?_
          refine g_at rfl (lv2 := [(3, vI (0)), (0, .ref (gw_ad w k)), (1, .ref (gw_ad w q)), (2, vI (c))]) (rfl) rfl rfl ?_
          exact li ((6 : Int) - 0 + 1).toNat 0 _ (by omega) (by omega) (by omega)  (fun q _ _ _ _ => rfl) ((up_eq _ _ _).trans (by rw [cp1_s h1c])) (up_ne (Ne.symm n12) elo_kl) (up_ne (Ne.symm n13) elo_kp) (up_ne (Ne.symm n14) elo_ke)
  refine g_sub (lv2 := [(2, vI (0)), (0, .ref (gw_ad w k)), (1, .ref (gw_ad w q))]) [0, 1, 2] rfl ?_
  refine g_at rfl (lv2 := [(2, vI (0)), (0, .ref (gw_ad w k)), (1, .ref (gw_ad w q))]) (rfl) rfl rfl ?_
  exact lo ((4 : Int) - 0 + 1).toNat 0 _ (by omega) (by omega) (by omega)  (fun q _ _ _ _ => rfl) (ekc.trans (by rw [cp1_0])) (ekl.trans (by rw [cp2_0])) (ekp.trans (by rw [cp2_0])) (eke.trans (by rw [cp1_0]))
