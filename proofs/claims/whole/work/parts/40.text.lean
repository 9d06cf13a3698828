/-! ===== the reference's reader of texts: its small methods ===== -/
def sgV (TX : Int → Int) (n i : Int) : Int := if i < n then TX i else -1
def putM (MK : Int → Int) (k n a b c : Int) : Int → Int := updZ (updZ (updZ MK (200 * k + 3 * n) a) (200 * k + 3 * n + 1) b) (200 * k + 3 * n + 2) c
def dgX (TX : Int → Int) (i : Int) : Nat → Int
  | 0 => 0
  | c + 1 => 10 * dgX TX i c + TX (i + c) - 48
theorem dgX_s (TX : Int → Int) (i : Int) {c : Int} (h : 0 ≤ c) : dgX TX i (c + 1).toNat = 10 * dgX TX i c.toNat + TX (i + c) - 48 := by
  rw [show (c + 1).toNat = c.toNat + 1 by omega]
  show 10 * dgX TX i c.toNat + TX (i + (c.toNat : Int)) - 48 = _
  rw [show ((c.toNat : Nat) : Int) = c by omega]
theorem dgX_b {TX : Int → Int} {i : Int} : ∀ {n : Nat}, (∀ j : Int, 0 ≤ j → j < n → 48 ≤ TX (i + j) ∧ TX (i + j) ≤ 57) → 0 ≤ dgX TX i n ∧ dgX TX i n < ((10 ^ n : Nat) : Int)
  | 0, _ => ⟨Int.le_refl 0, by show (0 : Int) < ((1 : Nat) : Int); decide⟩
  | n + 1, h => by
    have h1 := dgX_b (n := n) (fun j a b => h j a (by omega))
    have h2 := h n (by omega) (by omega)
    show 0 ≤ 10 * dgX TX i n + TX (i + n) - 48 ∧ 10 * dgX TX i n + TX (i + n) - 48 < ((10 ^ (n + 1) : Nat) : Int)
    rw [Nat.pow_succ]
    omega
def isDg (c : Int) : Prop := 48 ≤ c ∧ c ≤ 57
def opN_ (WT : Int → Int) : Nat → Int
  | 0 => 0
  | n + 1 => opN_ WT n + (if WT n = 40 then 1 else 0)
theorem opN_s (WT : Int → Int) {c : Int} (h : 0 ≤ c) : opN_ WT (c + 1).toNat = opN_ WT c.toNat + (if WT c = 40 then 1 else 0) := by
  rw [show (c + 1).toNat = c.toNat + 1 by omega]
  show opN_ WT c.toNat + (if WT (c.toNat : Int) = 40 then 1 else 0) = _
  rw [show ((c.toNat : Nat) : Int) = c by omega]
theorem opN_r (WT : Int → Int) : ∀ n : Nat, 0 ≤ opN_ WT n ∧ opN_ WT n ≤ n
  | 0 => ⟨Int.le_refl 0, Int.le_refl 0⟩
  | n + 1 => by
    have h := opN_r WT n
    show 0 ≤ opN_ WT n + (if WT n = 40 then 1 else 0) ∧ opN_ WT n + (if WT n = 40 then 1 else 0) ≤ ((n + 1 : Nat) : Int)
    split <;> omega
def popQ (c d : Int) : Prop := c = 126 ∨ (c = 38 ∧ 0 < d) ∨ (c = 124 ∧ 1 < d)
def jnK (MK WT : Int → Int) (k n0 wm : Int) : Nat → Int → Int
  | 0 => MK
  | c + 1 => putM (jnK MK WT k n0 wm c) k (n0 + c) (WT (wm - c - 1)) 0 0
theorem jnK_s (MK WT : Int → Int) (k n0 wm : Int) {c : Int} (h : 0 ≤ c) : jnK MK WT k n0 wm (c + 1).toNat = putM (jnK MK WT k n0 wm c.toNat) k (n0 + c) (WT (wm - c - 1)) 0 0 := by
  rw [show (c + 1).toNat = c.toNat + 1 by omega]
  show putM (jnK MK WT k n0 wm c.toNat) k (n0 + (c.toNat : Int)) (WT (wm - (c.toNat : Int) - 1)) 0 0 = _
  rw [show ((c.toNat : Nat) : Int) = c by omega]
def pfW (WT TX : Int → Int) (wm i c : Int) : Int → Int := fun j => if wm ≤ j ∧ j < wm + c then TX (i + (j - wm)) else WT j
theorem pfW_0 (WT TX : Int → Int) (wm i : Int) : pfW WT TX wm i 0 = WT := by
  funext j
  exact if_neg (by omega)
theorem pfW_s {WT TX : Int → Int} {wm i c x : Int} (h : 0 ≤ c) (hx : x = TX (i + c)) : updZ (pfW WT TX wm i c) (wm + c) x = pfW WT TX wm i (c + 1) := by
  funext j
  unfold updZ pfW
  by_cases h1 : j = wm + c
  · rw [if_pos h1, if_pos (by omega), h1, hx]
    congr 1
    omega
  · rw [if_neg h1]
    by_cases h2 : wm ≤ j ∧ j < wm + c
    · rw [if_pos h2, if_pos (by omega)]
    · rw [if_neg h2, if_neg (by omega)]

theorem sgV_in {TX : Int → Int} (h : ∀ i, inI (TX i)) (n i : Int) : inI (sgV TX n i) := by
  unfold sgV
  split
  · exact h i
  · exact ⟨by decide, by decide⟩

set_option maxHeartbeats 4000000 in
set_option maxRecDepth 100000 in
theorem c_X7_sign {w : gW} {l : Launch} {S : Nat → va_E} {pm tm xm at_ wm wh : Int} {ir : Bool} {V PV TY TX MK MM CH AM WT WK FL PI : Int → Int} (hN : gw_N w = 105) (hm : modelAt w pm tm xm at_ wm wh ir V PV TY TX MK MM CH AM WT WK FL PI S) (hxm : 0 ≤ xm ∧ xm ≤ 60) (hat : 0 ≤ at_ ∧ at_ ≤ xm) (hTX : ∀ i, inI (TX i)) :
    GM1 w l yX7_sign wsX7_sign { frames := 0, cells := 0, slots := 0, locals := 0 } [.ref (gw_ad w 92)] S
      (fun v S' => v = vI (sgV TX xm at_) ∧ S' = S) := by
  refine GM.start (own := RX7) (n := "sign") (d := "()I") (by decide) rfl (Nat.le_of_ble_eq_true rfl) ?_
  intro X hX hR hXl
  subst hXl
  refine g_at rfl (lv2 := [(0, .ref (gw_ad w 92))]) rfl rfl rfl ?_
  obtain ⟨⟨m92, m93, m94⟩, ⟨m95, m96⟩, ⟨m97, m98, m99, m100, m101⟩, ⟨m102, m103, m104⟩⟩ := (id hm)
  refine g_aload_n (pc := 0) hX 0 rfl dX7_sign_0 ?_
  refine g_get (pc := 1) hX (ci := 7) (fun _ h => List.mem_cons_of_mem _ (List.mem_append_right _ h)) rfl 92 (by omega) m92 7 (by decide) (List.mem_of_getElem? (i := 1) rfl) rfl (v := vI (at_)) rfl dX7_sign_1 ?_
  refine g_aload_n (pc := 4) hX 0 rfl dX7_sign_4 ?_
  refine g_get (pc := 5) hX (ci := 7) (fun _ h => List.mem_cons_of_mem _ (List.mem_append_right _ h)) rfl 92 (by omega) m92 6 (by decide) (List.mem_of_getElem? (i := 2) rfl) rfl (v := vI (xm)) rfl dX7_sign_5 ?_
  refine g_icmp_ge (pc := 8) (tgt := 23) hX (by first | assumption | exact inI_mk (by omega) (by omega)) (by first | assumption | exact inI_mk (by omega) (by omega)) dX7_sign_8 (by decide) (fun c_8 => ?_) (fun c_8 => ?_)
  · skip
    refine g_iconst (pc := 23) hX dX7_sign_23 ?_
    refine g_iret (pc := 24) hX hR dX7_sign_24 ?_
    exact ⟨vI_c (if_neg (by omega)).symm, rfl⟩
  · skip
    refine g_aload_n (pc := 11) hX 0 rfl dX7_sign_11 ?_
    refine g_get (pc := 12) hX (ci := 7) (fun _ h => List.mem_cons_of_mem _ (List.mem_append_right _ h)) rfl 92 (by omega) m92 5 (by decide) (List.mem_of_getElem? (i := 3) rfl) rfl (v := .ref (gw_ad w 96)) rfl dX7_sign_12 ?_
    refine g_aload_n (pc := 15) hX 0 rfl dX7_sign_15 ?_
    refine g_get (pc := 16) hX (ci := 7) (fun _ h => List.mem_cons_of_mem _ (List.mem_append_right _ h)) rfl 92 (by omega) m92 7 (by decide) (List.mem_of_getElem? (i := 1) rfl) rfl (v := vI (at_)) rfl dX7_sign_16 ?_
    refine g_iald (pc := 19) hX 96 (by omega) m96 (by omega) (by omega) (by decide) dX7_sign_19 ?_
    refine g_goto (pc := 20) (tgt := 24) hX dX7_sign_20 (by decide) ?_
    refine g_iret (pc := 24) hX hR dX7_sign_24 ?_
    exact ⟨vI_c (if_pos (by omega)).symm, rfl⟩

set_option maxHeartbeats 4000000 in
set_option maxRecDepth 100000 in
theorem c_X7_puts {w : gW} {l : Launch} {S : Nat → va_E} {pm tm xm at_ wm wh : Int} {ir : Bool} {V PV TY TX MK MM CH AM WT WK FL PI : Int → Int} (hN : gw_N w = 105) (hm : modelAt w pm tm xm at_ wm wh ir V PV TY TX MK MM CH AM WT WK FL PI S) (hwh : 0 ≤ wh ∧ wh < 8) (hmn : 0 ≤ MM wh ∧ MM wh ≤ 64) {a b c : Int} :
    GM0 w l yX7_puts wsX7_puts { frames := 0, cells := 0, slots := 0, locals := 0 } [.ref (gw_ad w 92), vI (a), vI (b), vI (c)] S
      (fun S' => POSTM w S pm tm xm at_ wm wh ir V PV TY TX (putM MK wh (MM wh) a b c) (updZ MM wh (MM wh + 1)) CH AM WT WK FL PI S') := by
  refine GM.start (own := RX7) (n := "puts") (d := "(III)V") (by decide) rfl (Nat.le_of_ble_eq_true rfl) ?_
  intro X hX hR hXl
  subst hXl
  refine g_at rfl (lv2 := [(0, .ref (gw_ad w 92)), (1, vI (a)), (2, vI (b)), (3, vI (c))]) rfl rfl rfl ?_
  obtain ⟨⟨m92, m93, m94⟩, ⟨m95, m96⟩, ⟨m97, m98, m99, m100, m101⟩, ⟨m102, m103, m104⟩⟩ := (id hm)
  refine g_sipush (pc := 0) hX (by decide) dX7_puts_0 ?_
  refine g_aload_n (pc := 3) hX 0 rfl dX7_puts_3 ?_
  refine g_get (pc := 4) hX (ci := 7) (fun _ h => List.mem_cons_of_mem _ (List.mem_append_right _ h)) rfl 92 (by omega) m92 14 (by decide) (List.mem_of_getElem? (i := 1) rfl) rfl (v := vI (wh)) rfl dX7_puts_4 ?_
  refine g_imul (pc := 7) hX dX7_puts_7 ?_
  refine g_iconst (pc := 8) hX dX7_puts_8 ?_
  refine g_aload_n (pc := 9) hX 0 rfl dX7_puts_9 ?_
  refine g_get (pc := 10) hX (ci := 7) (fun _ h => List.mem_cons_of_mem _ (List.mem_append_right _ h)) rfl 92 (by omega) m92 9 (by decide) (List.mem_of_getElem? (i := 2) rfl) rfl (v := .ref (gw_ad w 98)) rfl dX7_puts_10 ?_
  refine g_aload_n (pc := 13) hX 0 rfl dX7_puts_13 ?_
  refine g_get (pc := 14) hX (ci := 7) (fun _ h => List.mem_cons_of_mem _ (List.mem_append_right _ h)) rfl 92 (by omega) m92 14 (by decide) (List.mem_of_getElem? (i := 1) rfl) rfl (v := vI (wh)) rfl dX7_puts_14 ?_
  refine g_iald (pc := 17) hX 98 (by omega) m98 (by omega) (by omega) (by decide) dX7_puts_17 ?_
  refine g_imul (pc := 18) hX dX7_puts_18 ?_
  refine g_iadd (pc := 19) hX dX7_puts_19 ?_
  refine g_istore (pc := 20) hX (lv2 := [(4, vI ((200 * wh) + (3 * (MM wh)))), (0, .ref (gw_ad w 92)), (1, vI (a)), (2, vI (b)), (3, vI (c))]) (by decide) rfl dX7_puts_20 ?_
  refine g_aload_n (pc := 22) hX 1 rfl dX7_puts_22 ?_
  refine g_get (pc := 23) hX (ci := 7) (fun _ h => List.mem_cons_of_mem _ (List.mem_append_right _ h)) rfl 92 (by omega) m92 8 (by decide) (List.mem_of_getElem? (i := 3) rfl) rfl (v := .ref (gw_ad w 97)) rfl dX7_puts_23 ?_
  refine g_iload (pc := 26) hX 0 rfl dX7_puts_26 ?_
  refine g_iload_n (pc := 28) hX 2 rfl dX7_puts_28 ?_
  refine g_iast (pc := 29) hX 97 (by omega) m97 (by omega) (by omega) (by decide) dX7_puts_29 ?_
  refine g_at rfl rfl rfl (S2 := (va_up S 97 (AI w 1600 (updZ (MK) ((200 * wh) + (3 * (MM wh))) (a))))) rfl ?_
  refine g_aload_n (pc := 30) hX 1 rfl dX7_puts_30 ?_
  refine g_get (pc := 31) hX (ci := 7) (fun _ h => List.mem_cons_of_mem _ (List.mem_append_right _ h)) rfl 92 (by omega) (up_ne (by decide) m92) 8 (by decide) (List.mem_of_getElem? (i := 3) rfl) rfl (v := .ref (gw_ad w 97)) rfl dX7_puts_31 ?_
  refine g_iload (pc := 34) hX 0 rfl dX7_puts_34 ?_
  refine g_iconst (pc := 36) hX dX7_puts_36 ?_
  refine g_iadd (pc := 37) hX dX7_puts_37 ?_
  refine g_iload_n (pc := 38) hX 3 rfl dX7_puts_38 ?_
  refine g_iast (pc := 39) hX 97 (by omega) (up_eq _ _ _) (by omega) (by omega) (by decide) dX7_puts_39 ?_
  refine g_at rfl rfl rfl (S2 := (va_up (va_up S 97 (AI w 1600 (updZ (MK) ((200 * wh) + (3 * (MM wh))) (a)))) 97 (AI w 1600 (updZ (updZ (MK) ((200 * wh) + (3 * (MM wh))) (a)) (((200 * wh) + (3 * (MM wh))) + 1) (b))))) rfl ?_
  refine g_aload_n (pc := 40) hX 1 rfl dX7_puts_40 ?_
  refine g_get (pc := 41) hX (ci := 7) (fun _ h => List.mem_cons_of_mem _ (List.mem_append_right _ h)) rfl 92 (by omega) (up_ne (by decide) (up_ne (by decide) m92)) 8 (by decide) (List.mem_of_getElem? (i := 3) rfl) rfl (v := .ref (gw_ad w 97)) rfl dX7_puts_41 ?_
  refine g_iload (pc := 44) hX 0 rfl dX7_puts_44 ?_
  refine g_iconst (pc := 46) hX dX7_puts_46 ?_
  refine g_iadd (pc := 47) hX dX7_puts_47 ?_
  refine g_iload_n (pc := 48) hX 4 rfl dX7_puts_48 ?_
  refine g_iast (pc := 49) hX 97 (by omega) (up_eq _ _ _) (by omega) (by omega) (by decide) dX7_puts_49 ?_
  refine g_at rfl rfl rfl (S2 := (va_up (va_up (va_up S 97 (AI w 1600 (updZ (MK) ((200 * wh) + (3 * (MM wh))) (a)))) 97 (AI w 1600 (updZ (updZ (MK) ((200 * wh) + (3 * (MM wh))) (a)) (((200 * wh) + (3 * (MM wh))) + 1) (b)))) 97 (AI w 1600 (updZ (updZ (updZ (MK) ((200 * wh) + (3 * (MM wh))) (a)) (((200 * wh) + (3 * (MM wh))) + 1) (b)) (((200 * wh) + (3 * (MM wh))) + 2) (c))))) rfl ?_
  refine g_aload_n (pc := 50) hX 1 rfl dX7_puts_50 ?_
  refine g_get (pc := 51) hX (ci := 7) (fun _ h => List.mem_cons_of_mem _ (List.mem_append_right _ h)) rfl 92 (by omega) (up_ne (by decide) (up_ne (by decide) (up_ne (by decide) m92))) 9 (by decide) (List.mem_of_getElem? (i := 2) rfl) rfl (v := .ref (gw_ad w 98)) rfl dX7_puts_51 ?_
  refine g_aload_n (pc := 54) hX 1 rfl dX7_puts_54 ?_
  refine g_get (pc := 55) hX (ci := 7) (fun _ h => List.mem_cons_of_mem _ (List.mem_append_right _ h)) rfl 92 (by omega) (up_ne (by decide) (up_ne (by decide) (up_ne (by decide) m92))) 14 (by decide) (List.mem_of_getElem? (i := 1) rfl) rfl (v := vI (wh)) rfl dX7_puts_55 ?_
  refine g_dup2 (pc := 58) hX rfl rfl dX7_puts_58 ?_
  refine g_iald (pc := 59) hX 98 (by omega) (up_ne (by decide) (up_ne (by decide) (up_ne (by decide) m98))) (by omega) (by omega) (by decide) dX7_puts_59 ?_
  refine g_iconst (pc := 60) hX dX7_puts_60 ?_
  refine g_iadd (pc := 61) hX dX7_puts_61 ?_
  refine g_iast (pc := 62) hX 98 (by omega) (up_ne (by decide) (up_ne (by decide) (up_ne (by decide) m98))) (by omega) (by omega) (by decide) dX7_puts_62 ?_
  refine g_at rfl rfl rfl (S2 := (va_up (va_up (va_up (va_up S 97 (AI w 1600 (updZ (MK) ((200 * wh) + (3 * (MM wh))) (a)))) 97 (AI w 1600 (updZ (updZ (MK) ((200 * wh) + (3 * (MM wh))) (a)) (((200 * wh) + (3 * (MM wh))) + 1) (b)))) 97 (AI w 1600 (updZ (updZ (updZ (MK) ((200 * wh) + (3 * (MM wh))) (a)) (((200 * wh) + (3 * (MM wh))) + 1) (b)) (((200 * wh) + (3 * (MM wh))) + 2) (c)))) 98 (AI w 8 (updZ (MM) (wh) ((MM wh) + 1))))) rfl ?_
  refine g_vret (pc := 63) hX hR dX7_puts_63 ?_
  exact ⟨⟨⟨(up_ne (by decide) (up_ne (by decide) (up_ne (by decide) (up_ne (by decide) m92)))), (up_ne (by decide) (up_ne (by decide) (up_ne (by decide) (up_ne (by decide) m93)))), (up_ne (by decide) (up_ne (by decide) (up_ne (by decide) (up_ne (by decide) m94))))⟩, ⟨(up_ne (by decide) (up_ne (by decide) (up_ne (by decide) (up_ne (by decide) m95)))), (up_ne (by decide) (up_ne (by decide) (up_ne (by decide) (up_ne (by decide) m96))))⟩, ⟨(up_ne (by decide) (up_eq _ _ _)), (up_eq _ _ _), (up_ne (by decide) (up_ne (by decide) (up_ne (by decide) (up_ne (by decide) m99)))), (up_ne (by decide) (up_ne (by decide) (up_ne (by decide) (up_ne (by decide) m100)))), (up_ne (by decide) (up_ne (by decide) (up_ne (by decide) (up_ne (by decide) m101))))⟩, ⟨(up_ne (by decide) (up_ne (by decide) (up_ne (by decide) (up_ne (by decide) m102)))), (up_ne (by decide) (up_ne (by decide) (up_ne (by decide) (up_ne (by decide) m103)))), (up_ne (by decide) (up_ne (by decide) (up_ne (by decide) (up_ne (by decide) m104))))⟩⟩, fun q hq => (up_ne (by omega) (up_ne (by omega) (up_ne (by omega) (up_ne (by omega) rfl))))⟩

set_option maxHeartbeats 4000000 in
set_option maxRecDepth 100000 in
theorem c_X7_number {w : gW} {l : Launch} {S : Nat → va_E} {pm tm xm at_ wm wh : Int} {ir : Bool} {V PV TY TX MK MM CH AM WT WK FL PI : Int → Int} (hN : gw_N w = 105) (hm : modelAt w pm tm xm at_ wm wh ir V PV TY TX MK MM CH AM WT WK FL PI S) (hxm : 0 ≤ xm ∧ xm ≤ 60) (hat : 0 ≤ at_ ∧ at_ ≤ xm) (hTX : ∀ i, inI (TX i)) :
    GM1 w l yX7_number wsX7_number { frames := 1, cells := 0, slots := 0, locals := 25 } [.ref (gw_ad w 92)] S
      (fun v S' => ∃ c : Int, (0 ≤ c ∧ c ≤ 5) ∧ (∀ j : Int, 0 ≤ j → j < c → at_ + j < xm ∧ 48 ≤ TX (at_ + j) ∧ TX (at_ + j) ≤ 57) ∧ (c = 5 ∨ ¬ (48 ≤ sgV TX xm (at_ + c) ∧ sgV TX xm (at_ + c) ≤ 57)) ∧ v = vI (if c = 0 then -1 else dgX TX at_ c.toNat) ∧ POSTM w S pm tm xm (at_ + c) wm wh ir V PV TY TX MK MM CH AM WT WK FL PI S') := by
  refine GM.start (own := RX7) (n := "number") (d := "()I") (by decide) rfl (Nat.le_of_ble_eq_true rfl) ?_
  intro X hX hR hXl
  subst hXl
  refine g_at rfl (lv2 := [(0, .ref (gw_ad w 92))]) rfl rfl rfl ?_
  obtain ⟨⟨m92, m93, m94⟩, ⟨m95, m96⟩, ⟨m97, m98, m99, m100, m101⟩, ⟨m102, m103, m104⟩⟩ := (id hm)
  refine g_iconst (pc := 0) hX dX7_number_0 ?_
  refine g_istore_n (pc := 1) hX (lv2 := [(1, vI (0)), (0, .ref (gw_ad w 92))]) rfl (by decide) rfl dX7_number_1 ?_
  refine g_iconst (pc := 2) hX dX7_number_2 ?_
  refine g_istore_n (pc := 3) hX (lv2 := [(2, vI (0)), (1, vI (0)), (0, .ref (gw_ad w 92))]) rfl (by decide) rfl dX7_number_3 ?_
  have loop : ∀ (n0 : Nat) (c : Int), 0 ≤ c → c ≤ 5 → 5 - c < n0 → (at_ + c ≤ xm) → (∀ j : Int, 0 ≤ j → j < c → at_ + j < xm ∧ 48 ≤ TX (at_ + j) ∧ TX (at_ + j) ≤ 57) → G w { frames := 1, cells := 0, slots := 0, locals := 25 } X 3 4 [(1, vI (c)), (0, .ref (gw_ad w 92)), (2, vI (dgX TX at_ (c : Int).toNat))] [] (va_up S 92 (.inr (7, [.ref (gw_ad w 93), .ref (gw_ad w 94), vI (pm), .ref (gw_ad w 95), vI (tm), .ref (gw_ad w 96), vI (xm), vI (at_ + c), .ref (gw_ad w 97), .ref (gw_ad w 98), .ref (gw_ad w 99), .ref (gw_ad w 100), .ref (gw_ad w 101), vI (wm), vI (wh), vI (bz (ir)), .ref (gw_ad w 102), .ref (gw_ad w 103), .ref (gw_ad w 104)]))) := by
    intro n0
    induction n0 with
    | zero => intro c  h1c h2c h3c; exact absurd h3c (by omega)
    | succ n0 ihloop =>
      intro c  h1c h2c h3c hcx hdg
      have hc : inI c := inI_mk (by omega) (by omega)
      refine g_iload_n (pc := 4) hX 0 rfl dX7_number_4 ?_
      refine g_iconst (pc := 5) hX dX7_number_5 ?_
      refine g_icmp_ge (pc := 6) (tgt := 55) hX (by first | assumption | exact inI_mk (by omega) (by omega)) (by first | assumption | exact inI_mk (by omega) (by omega)) dX7_number_6 (by decide) (fun c_6 => ?_) (fun c_6 => ?_)
      · skip
        refine g_iload_n (pc := 55) hX 0 rfl dX7_number_55 ?_
        refine g_if_ne (pc := 56) (tgt := 63) hX (by first | assumption | exact inI_mk (by omega) (by omega)) dX7_number_56 (by decide) (fun c_56 => ?_) (fun c_56 => ?_)
        · skip
          refine g_iload_n (pc := 63) hX 2 rfl dX7_number_63 ?_
          refine g_iret (pc := 64) hX hR dX7_number_64 ?_
          refine ⟨c, by omega, hdg, Or.inl (by omega), ?_, ⟨⟨⟨(up_eq _ _ _), (up_ne (by decide) m93), (up_ne (by decide) m94)⟩, ⟨(up_ne (by decide) m95), (up_ne (by decide) m96)⟩, ⟨(up_ne (by decide) m97), (up_ne (by decide) m98), (up_ne (by decide) m99), (up_ne (by decide) m100), (up_ne (by decide) m101)⟩, ⟨(up_ne (by decide) m102), (up_ne (by decide) m103), (up_ne (by decide) m104)⟩⟩, fun q hq => (up_ne (by omega) rfl)⟩⟩
          exact vI_c (if_neg (by omega)).symm
        · skip
          refine g_iconst (pc := 59) hX dX7_number_59 ?_
          refine g_goto (pc := 60) (tgt := 64) hX dX7_number_60 (by decide) ?_
          refine g_iret (pc := 64) hX hR dX7_number_64 ?_
          refine ⟨c, by omega, hdg, Or.inl (by omega), ?_, ⟨⟨⟨(up_eq _ _ _), (up_ne (by decide) m93), (up_ne (by decide) m94)⟩, ⟨(up_ne (by decide) m95), (up_ne (by decide) m96)⟩, ⟨(up_ne (by decide) m97), (up_ne (by decide) m98), (up_ne (by decide) m99), (up_ne (by decide) m100), (up_ne (by decide) m101)⟩, ⟨(up_ne (by decide) m102), (up_ne (by decide) m103), (up_ne (by decide) m104)⟩⟩, fun q hq => (up_ne (by omega) rfl)⟩⟩
          exact vI_c (if_pos (by omega)).symm
      · skip
        refine g_aload_n (pc := 9) hX 1 rfl dX7_number_9 ?_
        refine g_callV1 (pc := 10) (ci := 7) (As := []) (st2 := []) hX 92 (by omega) (up_eq _ _ _) rfl (c_X7_sign hN (show modelAt w pm tm xm (at_ + c) wm wh ir V PV TY TX MK MM CH AM WT WK FL PI (va_up S 92 (.inr (7, [.ref (gw_ad w 93), .ref (gw_ad w 94), vI (pm), .ref (gw_ad w 95), vI (tm), .ref (gw_ad w 96), vI (xm), vI (at_ + c), .ref (gw_ad w 97), .ref (gw_ad w 98), .ref (gw_ad w 99), .ref (gw_ad w 100), .ref (gw_ad w 101), vI (wm), vI (wh), vI (bz (ir)), .ref (gw_ad w 102), .ref (gw_ad w 103), .ref (gw_ad w 104)]))) from ⟨⟨(up_eq _ _ _), (up_ne (by decide) m93), (up_ne (by decide) m94)⟩, ⟨(up_ne (by decide) m95), (up_ne (by decide) m96)⟩, ⟨(up_ne (by decide) m97), (up_ne (by decide) m98), (up_ne (by decide) m99), (up_ne (by decide) m100), (up_ne (by decide) m101)⟩, ⟨(up_ne (by decide) m102), (up_ne (by decide) m103), (up_ne (by decide) m104)⟩⟩) hxm (by omega) hTX) gX7_number_X7_sign (n := 0) (hw := rfl) (hrc := rfl) (hrs := rfl) (hd := by decide +kernel) (hR := ⟨Nat.le_of_ble_eq_true rfl, Nat.le_of_ble_eq_true rfl⟩) (hn := rfl) (hst := rfl) (hsum := Nat.le_of_ble_eq_true rfl) (hdg := dX7_number_10) ?_
        rintro _ S9 ⟨rfl, e9⟩
        rw [e9]
        clear e9 S9
        refine g_at (pc2 := 13) rfl rfl (st2 := [vI (sgV TX xm (at_ + c))]) rfl (S2 := (va_up S 92 (.inr (7, [.ref (gw_ad w 93), .ref (gw_ad w 94), vI (pm), .ref (gw_ad w 95), vI (tm), .ref (gw_ad w 96), vI (xm), vI (at_ + c), .ref (gw_ad w 97), .ref (gw_ad w 98), .ref (gw_ad w 99), .ref (gw_ad w 100), .ref (gw_ad w 101), vI (wm), vI (wh), vI (bz (ir)), .ref (gw_ad w 102), .ref (gw_ad w 103), .ref (gw_ad w 104)])))) rfl ?_
        refine g_i2l (pc := 13) hX (sgV_in hTX _ _) dX7_number_13 ?_
        refine g_ldc2 (pc := 14) hX (z := 48) (List.mem_of_getElem? (i := 1) rfl) (by decide +kernel) dX7_number_14 ?_
        refine g_ldc2 (pc := 17) hX (z := 57) (List.mem_of_getElem? (i := 2) rfl) (by decide +kernel) dX7_number_17 ?_
        refine g_callT1 (pc := 20) (As := [vL (sgV TX xm (at_ + c)), vL (48), vL (57)]) (st2 := []) hX (c_X7_in (x := sgV TX xm (at_ + c)) (a := 48) (b := 57) (inI_L (sgV_in hTX _ _)) (by first | assumption | exact inI_L (by assumption) | exact inL_mk (by omega) (by omega)) (by first | assumption | exact inI_L (by assumption) | exact inL_mk (by omega) (by omega))) gX7_number_X7_in (n := 3) (hw := rfl) (hrc := rfl) (hrs := rfl) (hd := by decide +kernel) (hR := ⟨Nat.le_of_ble_eq_true rfl, Nat.le_of_ble_eq_true rfl⟩) (hn := rfl) (hst := rfl) (hsum := Nat.le_of_ble_eq_true rfl) (hdg := dX7_number_20) ?_
        rintro _ S9 ⟨rfl, e9⟩
        rw [e9]
        clear e9 S9
        refine g_at (pc2 := 23) rfl rfl (st2 := [vI (bz (decide (48 ≤ sgV TX xm (at_ + c) ∧ sgV TX xm (at_ + c) ≤ 57)))]) rfl (S2 := (va_up S 92 (.inr (7, [.ref (gw_ad w 93), .ref (gw_ad w 94), vI (pm), .ref (gw_ad w 95), vI (tm), .ref (gw_ad w 96), vI (xm), vI (at_ + c), .ref (gw_ad w 97), .ref (gw_ad w 98), .ref (gw_ad w 99), .ref (gw_ad w 100), .ref (gw_ad w 101), vI (wm), vI (wh), vI (bz (ir)), .ref (gw_ad w 102), .ref (gw_ad w 103), .ref (gw_ad w 104)])))) rfl ?_
        refine g_bif_eq (pc := 23) (tgt := 55) hX dX7_number_23 (by decide) (fun c_23 => ?_) (fun c_23 => ?_)
        · skip
          refine g_iload_n (pc := 55) hX 0 rfl dX7_number_55 ?_
          refine g_if_ne (pc := 56) (tgt := 63) hX (by first | assumption | exact inI_mk (by omega) (by omega)) dX7_number_56 (by decide) (fun c_56 => ?_) (fun c_56 => ?_)
          · skip
            refine g_iload_n (pc := 63) hX 2 rfl dX7_number_63 ?_
            refine g_iret (pc := 64) hX hR dX7_number_64 ?_
            refine ⟨c, by omega, hdg, Or.inr (fun z => by have z1 := z.1; have z2 := z.2; have := of_decide_eq_false c_23; omega), ?_, ⟨⟨⟨(up_eq _ _ _), (up_ne (by decide) m93), (up_ne (by decide) m94)⟩, ⟨(up_ne (by decide) m95), (up_ne (by decide) m96)⟩, ⟨(up_ne (by decide) m97), (up_ne (by decide) m98), (up_ne (by decide) m99), (up_ne (by decide) m100), (up_ne (by decide) m101)⟩, ⟨(up_ne (by decide) m102), (up_ne (by decide) m103), (up_ne (by decide) m104)⟩⟩, fun q hq => (up_ne (by omega) rfl)⟩⟩
            exact vI_c (if_neg (by omega)).symm
          · skip
            refine g_iconst (pc := 59) hX dX7_number_59 ?_
            refine g_goto (pc := 60) (tgt := 64) hX dX7_number_60 (by decide) ?_
            refine g_iret (pc := 64) hX hR dX7_number_64 ?_
            refine ⟨c, by omega, hdg, Or.inr (fun z => by have z1 := z.1; have z2 := z.2; have := of_decide_eq_false c_23; omega), ?_, ⟨⟨⟨(up_eq _ _ _), (up_ne (by decide) m93), (up_ne (by decide) m94)⟩, ⟨(up_ne (by decide) m95), (up_ne (by decide) m96)⟩, ⟨(up_ne (by decide) m97), (up_ne (by decide) m98), (up_ne (by decide) m99), (up_ne (by decide) m100), (up_ne (by decide) m101)⟩, ⟨(up_ne (by decide) m102), (up_ne (by decide) m103), (up_ne (by decide) m104)⟩⟩, fun q hq => (up_ne (by omega) rfl)⟩⟩
            exact vI_c (if_pos (by omega)).symm
        · skip
          have hd1 := of_decide_eq_true c_23
          have hlt : at_ + c < xm := by
            apply Int.not_le.mp
            intro hq
            have e0 : sgV TX xm (at_ + c) = -1 := if_neg (by omega)
            rw [e0] at hd1
            omega
          have e34 : sgV TX xm (at_ + c) = TX (at_ + c) := if_pos hlt
          have hnx : at_ + c < xm ∧ 48 ≤ TX (at_ + c) ∧ TX (at_ + c) ≤ 57 := ⟨hlt, by rw [← e34]; omega⟩
          refine g_bipush (pc := 26) hX (by decide) dX7_number_26 ?_
          refine g_iload_n (pc := 28) hX 2 rfl dX7_number_28 ?_
          refine g_imul (pc := 29) hX dX7_number_29 ?_
          refine g_aload_n (pc := 30) hX 1 rfl dX7_number_30 ?_
          refine g_callV1 (pc := 31) (ci := 7) (As := []) (st2 := [vI (10 * (dgX TX at_ (c : Int).toNat))]) hX 92 (by omega) (up_eq _ _ _) rfl (c_X7_sign hN (show modelAt w pm tm xm (at_ + c) wm wh ir V PV TY TX MK MM CH AM WT WK FL PI (va_up S 92 (.inr (7, [.ref (gw_ad w 93), .ref (gw_ad w 94), vI (pm), .ref (gw_ad w 95), vI (tm), .ref (gw_ad w 96), vI (xm), vI (at_ + c), .ref (gw_ad w 97), .ref (gw_ad w 98), .ref (gw_ad w 99), .ref (gw_ad w 100), .ref (gw_ad w 101), vI (wm), vI (wh), vI (bz (ir)), .ref (gw_ad w 102), .ref (gw_ad w 103), .ref (gw_ad w 104)]))) from ⟨⟨(up_eq _ _ _), (up_ne (by decide) m93), (up_ne (by decide) m94)⟩, ⟨(up_ne (by decide) m95), (up_ne (by decide) m96)⟩, ⟨(up_ne (by decide) m97), (up_ne (by decide) m98), (up_ne (by decide) m99), (up_ne (by decide) m100), (up_ne (by decide) m101)⟩, ⟨(up_ne (by decide) m102), (up_ne (by decide) m103), (up_ne (by decide) m104)⟩⟩) hxm (by omega) hTX) gX7_number_X7_sign (n := 0) (hw := rfl) (hrc := rfl) (hrs := rfl) (hd := by decide +kernel) (hR := ⟨Nat.le_of_ble_eq_true rfl, Nat.le_of_ble_eq_true rfl⟩) (hn := rfl) (hst := rfl) (hsum := Nat.le_of_ble_eq_true rfl) (hdg := dX7_number_31) ?_
          rintro _ S9 ⟨rfl, e9⟩
          rw [e9]
          clear e9 S9
          refine g_at (pc2 := 34) rfl rfl (st2 := [vI (sgV TX xm (at_ + c)), vI (10 * (dgX TX at_ (c : Int).toNat))]) rfl (S2 := (va_up S 92 (.inr (7, [.ref (gw_ad w 93), .ref (gw_ad w 94), vI (pm), .ref (gw_ad w 95), vI (tm), .ref (gw_ad w 96), vI (xm), vI (at_ + c), .ref (gw_ad w 97), .ref (gw_ad w 98), .ref (gw_ad w 99), .ref (gw_ad w 100), .ref (gw_ad w 101), vI (wm), vI (wh), vI (bz (ir)), .ref (gw_ad w 102), .ref (gw_ad w 103), .ref (gw_ad w 104)])))) rfl ?_
          refine g_iadd (pc := 34) hX dX7_number_34 ?_
          refine g_bipush (pc := 35) hX (by decide) dX7_number_35 ?_
          refine g_isub (pc := 37) hX dX7_number_37 ?_
          refine g_istore_n (pc := 38) hX (lv2 := [(2, vI (((10 * (dgX TX at_ (c : Int).toNat)) + (sgV TX xm (at_ + c))) - 48)), (1, vI (c)), (0, .ref (gw_ad w 92))]) rfl (by decide) rfl dX7_number_38 ?_
          refine g_aload_n (pc := 39) hX 2 rfl dX7_number_39 ?_
          refine g_dup (pc := 40) hX rfl dX7_number_40 ?_
          refine g_get (pc := 41) hX (ci := 7) (fun _ h => List.mem_cons_of_mem _ (List.mem_append_right _ h)) rfl 92 (by omega) (up_eq _ _ _) 7 (by decide) (List.mem_of_getElem? (i := 3) rfl) rfl (v := vI (at_ + c)) rfl dX7_number_41 ?_
          refine g_iconst (pc := 44) hX dX7_number_44 ?_
          refine g_iadd (pc := 45) hX dX7_number_45 ?_
          refine g_put (pc := 46) hX (ci := 7) (fun _ h => List.mem_cons_of_mem _ (List.mem_append_right _ h)) rfl tyX7 tyX7_ok nmX7 92 (by omega) (up_eq _ _ _) 7 (by decide) (List.mem_of_getElem? (i := 3) rfl) rfl rfl (tyX7_ok 7 (by decide)) rfl (fit_int _) (Nat.le_of_ble_eq_true rfl) dX7_number_46 ?_
          refine g_at rfl rfl rfl (S2 := (va_up (va_up S 92 (.inr (7, [.ref (gw_ad w 93), .ref (gw_ad w 94), vI (pm), .ref (gw_ad w 95), vI (tm), .ref (gw_ad w 96), vI (xm), vI (at_ + c), .ref (gw_ad w 97), .ref (gw_ad w 98), .ref (gw_ad w 99), .ref (gw_ad w 100), .ref (gw_ad w 101), vI (wm), vI (wh), vI (bz (ir)), .ref (gw_ad w 102), .ref (gw_ad w 103), .ref (gw_ad w 104)]))) 92 (.inr (7, [.ref (gw_ad w 93), .ref (gw_ad w 94), vI (pm), .ref (gw_ad w 95), vI (tm), .ref (gw_ad w 96), vI (xm), vI ((at_ + c) + 1), .ref (gw_ad w 97), .ref (gw_ad w 98), .ref (gw_ad w 99), .ref (gw_ad w 100), .ref (gw_ad w 101), vI (wm), vI (wh), vI (bz (ir)), .ref (gw_ad w 102), .ref (gw_ad w 103), .ref (gw_ad w 104)])))) rfl ?_
          refine g_iinc (pc := 49) hX (lv2 := [(1, vI (c + 1)), (2, vI (((10 * (dgX TX at_ (c : Int).toNat)) + (sgV TX xm (at_ + c))) - 48)), (0, .ref (gw_ad w 92))]) 1 rfl (by decide) rfl dX7_number_49 ?_
          refine g_goto (pc := 52) (tgt := 4) hX dX7_number_52 (by decide) ?_
          refine g_sub (lv2 := [(1, vI (c + 1)), (0, .ref (gw_ad w 92)), (2, vI (((10 * (dgX TX at_ (c : Int).toNat)) + (sgV TX xm (at_ + c))) - 48))]) [0, 2, 1] rfl ?_
          refine g_at rfl (lv2 := [(1, vI (c + 1)), (0, .ref (gw_ad w 92)), (2, vI (dgX TX at_ (c + 1 : Int).toNat))]) (by rw [dgX_s _ _ h1c, e34]) rfl (S2 := (va_up S 92 (.inr (7, [.ref (gw_ad w 93), .ref (gw_ad w 94), vI (pm), .ref (gw_ad w 95), vI (tm), .ref (gw_ad w 96), vI (xm), vI (at_ + (c + 1)), .ref (gw_ad w 97), .ref (gw_ad w 98), .ref (gw_ad w 99), .ref (gw_ad w 100), .ref (gw_ad w 101), vI (wm), vI (wh), vI (bz (ir)), .ref (gw_ad w 102), .ref (gw_ad w 103), .ref (gw_ad w 104)])))) (by rw [up_up, Int.add_assoc]) ?_
          exact ihloop (c + 1)  (by omega) (by omega) (by omega) (by omega) (fun j a b => (Int.lt_or_eq_of_le (show j ≤ c by omega)).elim (fun h => hdg j a h) (fun h => by rw [h]; exact hnx))
  refine g_sub (lv2 := [(1, vI (0)), (0, .ref (gw_ad w 92)), (2, vI (0))]) [1, 2, 0] rfl ?_
  refine g_at rfl (lv2 := [(1, vI (0)), (0, .ref (gw_ad w 92)), (2, vI (dgX TX at_ (0 : Int).toNat))]) (rfl) rfl (S2 := (va_up S 92 (.inr (7, [.ref (gw_ad w 93), .ref (gw_ad w 94), vI (pm), .ref (gw_ad w 95), vI (tm), .ref (gw_ad w 96), vI (xm), vI (at_ + 0), .ref (gw_ad w 97), .ref (gw_ad w 98), .ref (gw_ad w 99), .ref (gw_ad w 100), .ref (gw_ad w 101), vI (wm), vI (wh), vI (bz (ir)), .ref (gw_ad w 102), .ref (gw_ad w 103), .ref (gw_ad w 104)])))) (by rw [Int.add_zero]; exact (up_self m92).symm) ?_
  exact loop ((5 : Int) - 0 + 1).toNat 0  (by omega) (by omega) (by omega) (by omega) (fun j a b => absurd b (by omega))

set_option maxHeartbeats 4000000 in
set_option maxRecDepth 100000 in
theorem c_X7_fieldOf {w : gW} {l : Launch} {S : Nat → va_E}  {c : Int} (hc : inI c) :
    GM1 w l yX7_fieldOf wsX7_fieldOf { frames := 0, cells := 0, slots := 0, locals := 0 } [vI (c)] S
      (fun v S' => v = vI (letZ c) ∧ S' = S) := by
  refine GM.start (own := RX7) (n := "fieldOf") (d := "(I)I") (by decide) rfl (Nat.le_of_ble_eq_true rfl) ?_
  intro X hX hR hXl
  subst hXl
  refine g_at rfl (lv2 := [(0, vI (c))]) rfl rfl rfl ?_
  refine g_iload_n (pc := 0) hX 0 rfl dX7_fieldOf_0 ?_
  refine g_bipush (pc := 1) hX (by decide) dX7_fieldOf_1 ?_
  refine g_icmp_ne (pc := 3) (tgt := 10) hX (by first | assumption | exact inI_mk (by omega) (by omega)) (by first | assumption | exact inI_mk (by omega) (by omega)) dX7_fieldOf_3 (by decide) (fun c_3 => ?_) (fun c_3 => ?_)
  · skip
    refine g_iload_n (pc := 10) hX 0 rfl dX7_fieldOf_10 ?_
    refine g_bipush (pc := 11) hX (by decide) dX7_fieldOf_11 ?_
    refine g_icmp_ne (pc := 13) (tgt := 20) hX (by first | assumption | exact inI_mk (by omega) (by omega)) (by first | assumption | exact inI_mk (by omega) (by omega)) dX7_fieldOf_13 (by decide) (fun c_13 => ?_) (fun c_13 => ?_)
    · skip
      refine g_iload_n (pc := 20) hX 0 rfl dX7_fieldOf_20 ?_
      refine g_bipush (pc := 21) hX (by decide) dX7_fieldOf_21 ?_
      refine g_icmp_ne (pc := 23) (tgt := 30) hX (by first | assumption | exact inI_mk (by omega) (by omega)) (by first | assumption | exact inI_mk (by omega) (by omega)) dX7_fieldOf_23 (by decide) (fun c_23 => ?_) (fun c_23 => ?_)
      · skip
        refine g_iload_n (pc := 30) hX 0 rfl dX7_fieldOf_30 ?_
        refine g_bipush (pc := 31) hX (by decide) dX7_fieldOf_31 ?_
        refine g_icmp_ne (pc := 33) (tgt := 40) hX (by first | assumption | exact inI_mk (by omega) (by omega)) (by first | assumption | exact inI_mk (by omega) (by omega)) dX7_fieldOf_33 (by decide) (fun c_33 => ?_) (fun c_33 => ?_)
        · skip
          refine g_iload_n (pc := 40) hX 0 rfl dX7_fieldOf_40 ?_
          refine g_bipush (pc := 41) hX (by decide) dX7_fieldOf_41 ?_
          refine g_icmp_ne (pc := 43) (tgt := 50) hX (by first | assumption | exact inI_mk (by omega) (by omega)) (by first | assumption | exact inI_mk (by omega) (by omega)) dX7_fieldOf_43 (by decide) (fun c_43 => ?_) (fun c_43 => ?_)
          · skip
            refine g_iload_n (pc := 50) hX 0 rfl dX7_fieldOf_50 ?_
            refine g_bipush (pc := 51) hX (by decide) dX7_fieldOf_51 ?_
            refine g_icmp_ne (pc := 53) (tgt := 60) hX (by first | assumption | exact inI_mk (by omega) (by omega)) (by first | assumption | exact inI_mk (by omega) (by omega)) dX7_fieldOf_53 (by decide) (fun c_53 => ?_) (fun c_53 => ?_)
            · skip
              refine g_iconst (pc := 60) hX dX7_fieldOf_60 ?_
              refine g_iret (pc := 61) hX hR dX7_fieldOf_61 ?_
              exact ⟨vI_c (by unfold letZ; rw [if_neg c_3, if_neg c_13, if_neg c_23, if_neg c_33, if_neg c_43, if_neg c_53]), rfl⟩
            · skip
              refine g_iconst (pc := 56) hX dX7_fieldOf_56 ?_
              refine g_goto (pc := 57) (tgt := 61) hX dX7_fieldOf_57 (by decide) ?_
              refine g_iret (pc := 61) hX hR dX7_fieldOf_61 ?_
              exact ⟨vI_c (by unfold letZ; rw [if_neg c_3, if_neg c_13, if_neg c_23, if_neg c_33, if_neg c_43, if_pos c_53]), rfl⟩
          · skip
            refine g_iconst (pc := 46) hX dX7_fieldOf_46 ?_
            refine g_goto (pc := 47) (tgt := 61) hX dX7_fieldOf_47 (by decide) ?_
            refine g_iret (pc := 61) hX hR dX7_fieldOf_61 ?_
            exact ⟨vI_c (by unfold letZ; rw [if_neg c_3, if_neg c_13, if_neg c_23, if_neg c_33, if_pos c_43]), rfl⟩
        · skip
          refine g_iconst (pc := 36) hX dX7_fieldOf_36 ?_
          refine g_goto (pc := 37) (tgt := 61) hX dX7_fieldOf_37 (by decide) ?_
          refine g_iret (pc := 61) hX hR dX7_fieldOf_61 ?_
          exact ⟨vI_c (by unfold letZ; rw [if_neg c_3, if_neg c_13, if_neg c_23, if_pos c_33]), rfl⟩
      · skip
        refine g_iconst (pc := 26) hX dX7_fieldOf_26 ?_
        refine g_goto (pc := 27) (tgt := 61) hX dX7_fieldOf_27 (by decide) ?_
        refine g_iret (pc := 61) hX hR dX7_fieldOf_61 ?_
        exact ⟨vI_c (by unfold letZ; rw [if_neg c_3, if_neg c_13, if_pos c_23]), rfl⟩
    · skip
      refine g_iconst (pc := 16) hX dX7_fieldOf_16 ?_
      refine g_goto (pc := 17) (tgt := 61) hX dX7_fieldOf_17 (by decide) ?_
      refine g_iret (pc := 61) hX hR dX7_fieldOf_61 ?_
      exact ⟨vI_c (by unfold letZ; rw [if_neg c_3, if_pos c_13]), rfl⟩
  · skip
    refine g_iconst (pc := 6) hX dX7_fieldOf_6 ?_
    refine g_goto (pc := 7) (tgt := 61) hX dX7_fieldOf_7 (by decide) ?_
    refine g_iret (pc := 61) hX hR dX7_fieldOf_61 ?_
    exact ⟨vI_c (by unfold letZ; rw [if_pos c_3]), rfl⟩

set_option maxHeartbeats 4000000 in
set_option maxRecDepth 100000 in
theorem c_X7_joins {w : gW} {l : Launch} {S : Nat → va_E} {pm tm xm at_ wm wh : Int} {ir : Bool} {V PV TY TX MK MM CH AM WT WK FL PI : Int → Int} (hN : gw_N w = 105) (hm : modelAt w pm tm xm at_ wm wh ir V PV TY TX MK MM CH AM WT WK FL PI S) (hwh : 0 ≤ wh ∧ wh < 8) (hmn : 0 ≤ MM wh ∧ MM wh ≤ 64) (hwm : 1 ≤ wm ∧ wm ≤ 64) :
    GM0 w l yX7_joins wsX7_joins { frames := 1, cells := 0, slots := 0, locals := 24 } [.ref (gw_ad w 92)] S
      (fun S' => POSTM w S pm tm xm at_ (wm - 1) wh ir V PV TY TX (putM MK wh (MM wh) (WT (wm - 1)) 0 0) (updZ MM wh (MM wh + 1)) CH AM WT WK FL PI S') := by
  refine GM.start (own := RX7) (n := "joins") (d := "()V") (by decide) rfl (Nat.le_of_ble_eq_true rfl) ?_
  intro X hX hR hXl
  subst hXl
  refine g_at rfl (lv2 := [(0, .ref (gw_ad w 92))]) rfl rfl rfl ?_
  obtain ⟨⟨m92, m93, m94⟩, ⟨m95, m96⟩, ⟨m97, m98, m99, m100, m101⟩, ⟨m102, m103, m104⟩⟩ := (id hm)
  refine g_aload_n (pc := 0) hX 0 rfl dX7_joins_0 ?_
  refine g_dup (pc := 1) hX rfl dX7_joins_1 ?_
  refine g_get (pc := 2) hX (ci := 7) (fun _ h => List.mem_cons_of_mem _ (List.mem_append_right _ h)) rfl 92 (by omega) m92 13 (by decide) (List.mem_of_getElem? (i := 1) rfl) rfl (v := vI (wm)) rfl dX7_joins_2 ?_
  refine g_iconst (pc := 5) hX dX7_joins_5 ?_
  refine g_isub (pc := 6) hX dX7_joins_6 ?_
  refine g_put (pc := 7) hX (ci := 7) (fun _ h => List.mem_cons_of_mem _ (List.mem_append_right _ h)) rfl tyX7 tyX7_ok nmX7 92 (by omega) m92 13 (by decide) (List.mem_of_getElem? (i := 1) rfl) rfl rfl (tyX7_ok 13 (by decide)) rfl (fit_int _) (Nat.le_of_ble_eq_true rfl) dX7_joins_7 ?_
  refine g_at rfl rfl rfl (S2 := (va_up S 92 (.inr (7, [.ref (gw_ad w 93), .ref (gw_ad w 94), vI (pm), .ref (gw_ad w 95), vI (tm), .ref (gw_ad w 96), vI (xm), vI (at_), .ref (gw_ad w 97), .ref (gw_ad w 98), .ref (gw_ad w 99), .ref (gw_ad w 100), .ref (gw_ad w 101), vI (wm - 1), vI (wh), vI (bz (ir)), .ref (gw_ad w 102), .ref (gw_ad w 103), .ref (gw_ad w 104)])))) rfl ?_
  refine g_aload_n (pc := 10) hX 0 rfl dX7_joins_10 ?_
  refine g_aload_n (pc := 11) hX 0 rfl dX7_joins_11 ?_
  refine g_get (pc := 12) hX (ci := 7) (fun _ h => List.mem_cons_of_mem _ (List.mem_append_right _ h)) rfl 92 (by omega) (up_eq _ _ _) 12 (by decide) (List.mem_of_getElem? (i := 2) rfl) rfl (v := .ref (gw_ad w 101)) rfl dX7_joins_12 ?_
  refine g_aload_n (pc := 15) hX 0 rfl dX7_joins_15 ?_
  refine g_get (pc := 16) hX (ci := 7) (fun _ h => List.mem_cons_of_mem _ (List.mem_append_right _ h)) rfl 92 (by omega) (up_eq _ _ _) 13 (by decide) (List.mem_of_getElem? (i := 1) rfl) rfl (v := vI (wm - 1)) rfl dX7_joins_16 ?_
  refine g_iald (pc := 19) hX 101 (by omega) (up_ne (by decide) m101) (by omega) (by omega) (by decide) dX7_joins_19 ?_
  refine g_iconst (pc := 20) hX dX7_joins_20 ?_
  refine g_iconst (pc := 21) hX dX7_joins_21 ?_
  refine g_callV0 (pc := 22) (ci := 7) (As := [vI (WT (wm - 1)), vI (0), vI (0)]) (st2 := []) hX 92 (by omega) (up_eq _ _ _) rfl (c_X7_puts hN (show modelAt w pm tm xm at_ (wm - 1) wh ir V PV TY TX MK MM CH AM WT WK FL PI (va_up S 92 (.inr (7, [.ref (gw_ad w 93), .ref (gw_ad w 94), vI (pm), .ref (gw_ad w 95), vI (tm), .ref (gw_ad w 96), vI (xm), vI (at_), .ref (gw_ad w 97), .ref (gw_ad w 98), .ref (gw_ad w 99), .ref (gw_ad w 100), .ref (gw_ad w 101), vI (wm - 1), vI (wh), vI (bz (ir)), .ref (gw_ad w 102), .ref (gw_ad w 103), .ref (gw_ad w 104)]))) from ⟨⟨(up_eq _ _ _), (up_ne (by decide) m93), (up_ne (by decide) m94)⟩, ⟨(up_ne (by decide) m95), (up_ne (by decide) m96)⟩, ⟨(up_ne (by decide) m97), (up_ne (by decide) m98), (up_ne (by decide) m99), (up_ne (by decide) m100), (up_ne (by decide) m101)⟩, ⟨(up_ne (by decide) m102), (up_ne (by decide) m103), (up_ne (by decide) m104)⟩⟩) hwh hmn (a := WT (wm - 1)) (b := 0) (c := 0)) gX7_joins_X7_puts (n := 3) (hw := rfl) (hrc := rfl) (hrs := rfl) (hd := by decide +kernel) (hR := ⟨Nat.le_of_ble_eq_true rfl, Nat.le_of_ble_eq_true rfl⟩) (hn := rfl) (hst := rfl) (hsum := Nat.le_of_ble_eq_true rfl) (hdg := dX7_joins_22) ?_
  rintro S22 hP22
  obtain ⟨⟨m22_92, m22_93, m22_94⟩, ⟨m22_95, m22_96⟩, ⟨m22_97, m22_98, m22_99, m22_100, m22_101⟩, ⟨m22_102, m22_103, m22_104⟩⟩ := hP22.1
  refine g_at (pc2 := 25) rfl rfl (st2 := []) rfl (S2 := S22) rfl ?_
  refine g_vret (pc := 25) hX hR dX7_joins_25 ?_
  exact ⟨⟨⟨m22_92, m22_93, m22_94⟩, ⟨m22_95, m22_96⟩, ⟨m22_97, m22_98, m22_99, m22_100, m22_101⟩, ⟨m22_102, m22_103, m22_104⟩⟩, fun q hq => ((hP22.2 q hq).trans (up_ne (by omega) rfl))⟩

set_option maxHeartbeats 4000000 in
set_option maxRecDepth 100000 in
theorem c_X7_opens {w : gW} {l : Launch} {S : Nat → va_E} {pm tm xm at_ wm wh : Int} {ir : Bool} {V PV TY TX MK MM CH AM WT WK FL PI : Int → Int} (hN : gw_N w = 105) (hm : modelAt w pm tm xm at_ wm wh ir V PV TY TX MK MM CH AM WT WK FL PI S) (hwm : 0 ≤ wm ∧ wm ≤ 64) (hWT : ∀ i, inI (WT i)) :
    GM1 w l yX7_opens wsX7_opens { frames := 0, cells := 0, slots := 0, locals := 0 } [.ref (gw_ad w 92)] S
      (fun v S' => v = vI (opN_ WT wm.toNat) ∧ S' = S) := by
  refine GM.start (own := RX7) (n := "opens") (d := "()I") (by decide) rfl (Nat.le_of_ble_eq_true rfl) ?_
  intro X hX hR hXl
  subst hXl
  refine g_at rfl (lv2 := [(0, .ref (gw_ad w 92))]) rfl rfl rfl ?_
  obtain ⟨⟨m92, m93, m94⟩, ⟨m95, m96⟩, ⟨m97, m98, m99, m100, m101⟩, ⟨m102, m103, m104⟩⟩ := (id hm)
  refine g_iconst (pc := 0) hX dX7_opens_0 ?_
  refine g_istore_n (pc := 1) hX (lv2 := [(1, vI (0)), (0, .ref (gw_ad w 92))]) rfl (by decide) rfl dX7_opens_1 ?_
  refine g_iconst (pc := 2) hX dX7_opens_2 ?_
  refine g_istore_n (pc := 3) hX (lv2 := [(2, vI (0)), (1, vI (0)), (0, .ref (gw_ad w 92))]) rfl (by decide) rfl dX7_opens_3 ?_
  have loop : ∀ (n0 : Nat) (c : Int), 0 ≤ c → c ≤ wm → wm - c < n0 → G w { frames := 0, cells := 0, slots := 0, locals := 0 } X 3 4 [(2, vI (c)), (0, .ref (gw_ad w 92)), (1, vI (opN_ WT (c : Int).toNat))] [] S := by
    intro n0
    induction n0 with
    | zero => intro c  h1c h2c h3c; exact absurd h3c (by omega)
    | succ n0 ihloop =>
      intro c  h1c h2c h3c 
      have hc : inI c := inI_mk (by omega) (by omega)
      refine g_iload_n (pc := 4) hX 0 rfl dX7_opens_4 ?_
      refine g_aload_n (pc := 5) hX 1 rfl dX7_opens_5 ?_
      refine g_get (pc := 6) hX (ci := 7) (fun _ h => List.mem_cons_of_mem _ (List.mem_append_right _ h)) rfl 92 (by omega) m92 13 (by decide) (List.mem_of_getElem? (i := 1) rfl) rfl (v := vI (wm)) rfl dX7_opens_6 ?_
      refine g_icmp_ge (pc := 9) (tgt := 37) hX (by first | assumption | exact inI_mk (by omega) (by omega)) (by first | assumption | exact inI_mk (by omega) (by omega)) dX7_opens_9 (by decide) (fun c_9 => ?_) (fun c_9 => ?_)
      · skip
        refine g_iload_n (pc := 37) hX 2 rfl dX7_opens_37 ?_
        refine g_iret (pc := 38) hX hR dX7_opens_38 ?_
        rw [show c = wm by omega]
        exact ⟨rfl, rfl⟩
      · skip
        refine g_iload_n (pc := 12) hX 2 rfl dX7_opens_12 ?_
        refine g_aload_n (pc := 13) hX 1 rfl dX7_opens_13 ?_
        refine g_get (pc := 14) hX (ci := 7) (fun _ h => List.mem_cons_of_mem _ (List.mem_append_right _ h)) rfl 92 (by omega) m92 12 (by decide) (List.mem_of_getElem? (i := 2) rfl) rfl (v := .ref (gw_ad w 101)) rfl dX7_opens_14 ?_
        refine g_iload_n (pc := 17) hX 0 rfl dX7_opens_17 ?_
        refine g_iald (pc := 18) hX 101 (by omega) m101 (by omega) (by omega) (by decide) dX7_opens_18 ?_
        refine g_bipush (pc := 19) hX (by decide) dX7_opens_19 ?_
        refine g_icmp_ne (pc := 21) (tgt := 28) hX (hWT c) (by first | assumption | exact inI_mk (by omega) (by omega)) dX7_opens_21 (by decide) (fun c_21 => ?_) (fun c_21 => ?_)
        · skip
          refine g_iconst (pc := 28) hX dX7_opens_28 ?_
          refine g_iadd (pc := 29) hX dX7_opens_29 ?_
          refine g_istore_n (pc := 30) hX (lv2 := [(1, vI ((opN_ WT (c : Int).toNat) + 0)), (2, vI (c)), (0, .ref (gw_ad w 92))]) rfl (by decide) rfl dX7_opens_30 ?_
          refine g_iinc (pc := 31) hX (lv2 := [(2, vI (c + 1)), (1, vI ((opN_ WT (c : Int).toNat) + 0)), (0, .ref (gw_ad w 92))]) 1 rfl (by decide) rfl dX7_opens_31 ?_
          refine g_goto (pc := 34) (tgt := 4) hX dX7_opens_34 (by decide) ?_
          refine g_sub (lv2 := [(2, vI (c + 1)), (0, .ref (gw_ad w 92)), (1, vI ((opN_ WT (c : Int).toNat) + 0))]) [0, 2, 1] rfl ?_
          refine g_at rfl (lv2 := [(2, vI (c + 1)), (0, .ref (gw_ad w 92)), (1, vI (opN_ WT (c + 1 : Int).toNat))]) (by rw [opN_s WT h1c, if_neg c_21]) rfl (S2 := S) (rfl) ?_
          exact ihloop (c + 1)  (by omega) (by omega) (by omega) 
        · skip
          refine g_iconst (pc := 24) hX dX7_opens_24 ?_
          refine g_goto (pc := 25) (tgt := 29) hX dX7_opens_25 (by decide) ?_
          refine g_iadd (pc := 29) hX dX7_opens_29 ?_
          refine g_istore_n (pc := 30) hX (lv2 := [(1, vI ((opN_ WT (c : Int).toNat) + 1)), (2, vI (c)), (0, .ref (gw_ad w 92))]) rfl (by decide) rfl dX7_opens_30 ?_
          refine g_iinc (pc := 31) hX (lv2 := [(2, vI (c + 1)), (1, vI ((opN_ WT (c : Int).toNat) + 1)), (0, .ref (gw_ad w 92))]) 1 rfl (by decide) rfl dX7_opens_31 ?_
          refine g_goto (pc := 34) (tgt := 4) hX dX7_opens_34 (by decide) ?_
          refine g_sub (lv2 := [(2, vI (c + 1)), (0, .ref (gw_ad w 92)), (1, vI ((opN_ WT (c : Int).toNat) + 1))]) [0, 2, 1] rfl ?_
          refine g_at rfl (lv2 := [(2, vI (c + 1)), (0, .ref (gw_ad w 92)), (1, vI (opN_ WT (c + 1 : Int).toNat))]) (by rw [opN_s WT h1c, if_pos c_21]) rfl (S2 := S) (rfl) ?_
          exact ihloop (c + 1)  (by omega) (by omega) (by omega) 
  refine g_sub (lv2 := [(2, vI (0)), (0, .ref (gw_ad w 92)), (1, vI (0))]) [0, 2, 1] rfl ?_
  refine g_at rfl (lv2 := [(2, vI (0)), (0, .ref (gw_ad w 92)), (1, vI (opN_ WT (0 : Int).toNat))]) (rfl) rfl (S2 := S) (rfl) ?_
  exact loop ((wm : Int) - 0 + 1).toNat 0  (by omega) (by omega) (by omega) 
