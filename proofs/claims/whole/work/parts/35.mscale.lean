def msN (V : Int → Int) : Nat → Int
  | 0 => V 14
  | n + 1 => mx2 (V (15 + n)) (msN V n)
def mnN (V : Int → Int) : Nat → Int
  | 0 => V 14
  | n + 1 => mn2 (V (15 + n)) (mnN V n)
theorem msN_s (V : Int → Int) {c : Int} (h : 1 ≤ c) : msN V (c + 1 - 1).toNat = mx2 (V (14 + c)) (msN V (c - 1).toNat) := by
  rw [show (c + 1 - 1).toNat = (c - 1).toNat + 1 by omega]
  show mx2 (V (15 + ((c - 1).toNat : Int))) _ = _
  rw [show 15 + (((c - 1).toNat : Nat) : Int) = 14 + c by omega]
theorem mnN_s (V : Int → Int) {c : Int} (h : 1 ≤ c) : mnN V (c + 1 - 1).toNat = mn2 (V (14 + c)) (mnN V (c - 1).toNat) := by
  rw [show (c + 1 - 1).toNat = (c - 1).toNat + 1 by omega]
  show mn2 (V (15 + ((c - 1).toNat : Int))) _ = _
  rw [show 15 + (((c - 1).toNat : Nat) : Int) = 14 + c by omega]
theorem msN_b {V : Int → Int} (h : ∀ j, 14 ≤ j → j ≤ 16 → -2200000 ≤ V j ∧ V j ≤ 2200000) : ∀ n : Nat, n ≤ 2 → (-2200000 ≤ msN V n ∧ msN V n ≤ 2200000) ∧ (-2200000 ≤ mnN V n ∧ mnN V n ≤ 2200000)
  | 0, _ => ⟨h 14 (by decide) (by decide), h 14 (by decide) (by decide)⟩
  | n + 1, hn => by
    have h1 := msN_b h n (by omega)
    have h2 := h (15 + n) (by omega) (by omega)
    show (-2200000 ≤ mx2 (V (15 + n)) (msN V n) ∧ mx2 (V (15 + n)) (msN V n) ≤ 2200000) ∧ (-2200000 ≤ mn2 (V (15 + n)) (mnN V n) ∧ mn2 (V (15 + n)) (mnN V n) ≤ 2200000)
    unfold mx2 mn2
    refine ⟨?_, ?_⟩ <;> split <;> omega
theorem groV_b {V : Int → Int} (h : mOK V) : -5000000 ≤ groV V ∧ groV V ≤ 5000000 := by
  have hb := rawV_b h.r
  obtain ⟨⟨⟨-, -, f2, -⟩, -⟩, ⟨-, -, a10, -⟩, -⟩ := h
  unfold groV
  generalize hx : 2 * (rawV V - V 10) + V 2 = x
  have h1 := Int.ediv_mul_le x (show 2 * V 2 ≠ 0 by omega)
  have h2 := Int.lt_ediv_add_one_mul_self x (show 0 < 2 * V 2 by omega)
  rw [Int.add_mul, Int.one_mul] at h2
  have e : x / (2 * V 2) * (2 * V 2) = 2 * (V 2 * (x / (2 * V 2))) := by rw [Int.mul_left_comm, Int.mul_comm (x / (2 * V 2)) (V 2)]
  rw [e] at h1 h2
  omega
theorem scnV_in {V : Int → Int} (h : mOK V) (i : Int) : inI (scnV V i) := by
  have h1 := rawV_b h.r
  have h2 := groV_b h
  have b1 := bz_b (steV V)
  have b2 := bz_b (ovrV V)
  obtain ⟨-, ⟨a8, a9, a10, a11, a12, a13⟩, -⟩ := h
  unfold scnV
  repeat (first | exact ⟨by omega, by omega⟩ | split)

set_option maxHeartbeats 4000000 in
set_option maxRecDepth 100000 in
theorem c_X7_act {w : gW} {l : Launch} {S : Nat → va_E} {pm tm xm at_ wm wh : Int} {ir : Bool} {V PV TY TX MK MM CH AM WT WK FL PI : Int → Int} (hN : gw_N w = 105) (hm : modelAt w pm tm xm at_ wm wh ir V PV TY TX MK MM CH AM WT WK FL PI S) (hpm : 0 ≤ pm ∧ pm ≤ 4) :
    GM0 w l yX7_act wsX7_act { frames := 0, cells := 0, slots := 0, locals := 0 } [.ref (gw_ad w 92)] S
      (fun S' => POSTM w S (actN pm) tm xm at_ wm wh ir V (actP pm PV V) TY TX MK MM CH AM WT WK FL PI S') := by
  refine GM.start (own := RX7) (n := "act") (d := "()V") (by decide) rfl (Nat.le_of_ble_eq_true rfl) ?_
  intro X hX hR hXl
  subst hXl
  refine g_at rfl (lv2 := [(0, .ref (gw_ad w 92))]) rfl rfl rfl ?_
  obtain ⟨⟨m92, m93, m94⟩, ⟨m95, m96⟩, ⟨m97, m98, m99, m100, m101⟩, ⟨m102, m103, m104⟩⟩ := (id hm)
  refine g_aload_n (pc := 0) hX 0 rfl dX7_act_0 ?_
  refine g_get (pc := 1) hX (ci := 7) (fun _ h => List.mem_cons_of_mem _ (List.mem_append_right _ h)) rfl 92 (by omega) m92 2 (by decide) (List.mem_of_getElem? (i := 1) rfl) rfl (v := vI (pm)) rfl dX7_act_1 ?_
  refine g_iconst (pc := 4) hX dX7_act_4 ?_
  refine g_icmp_ne (pc := 5) (tgt := 49) hX (by first | assumption | exact inI_mk (by omega) (by omega)) (by first | assumption | exact inI_mk (by omega) (by omega)) dX7_act_5 (by decide) (fun c_5 => ?_) (fun c_5 => ?_)
  · skip
    refine g_iconst (pc := 49) hX dX7_act_49 ?_
    refine g_istore_n (pc := 50) hX (lv2 := [(1, vI (0)), (0, .ref (gw_ad w 92))]) rfl (by decide) rfl dX7_act_50 ?_
    have lb : ∀ (n0 : Nat) (e : Int), 0 ≤ e → e ≤ 1200 → 1200 - e < n0 → G w { frames := 0, cells := 0, slots := 0, locals := 0 } X 2 51 [(1, vI (e)), (0, .ref (gw_ad w 92))] [] (va_up S 94 (AJ w 4800 (actW PV V (1200 * pm) e))) := by
      intro n0
      induction n0 with
      | zero => intro e  h1e h2e h3e; exact absurd h3e (by omega)
      | succ n0 ihlb =>
        intro e  h1e h2e h3e 
        have he : inI e := inI_mk (by omega) (by omega)
        refine g_iload_n (pc := 51) hX 0 rfl dX7_act_51 ?_
        refine g_sipush (pc := 52) hX (by decide) dX7_act_52 ?_
        refine g_icmp_ge (pc := 55) (tgt := 85) hX (by first | assumption | exact inI_mk (by omega) (by omega)) (by first | assumption | exact inI_mk (by omega) (by omega)) dX7_act_55 (by decide) (fun c_55 => ?_) (fun c_55 => ?_)
        · skip
          refine g_aload_n (pc := 85) hX 1 rfl dX7_act_85 ?_
          refine g_dup (pc := 86) hX rfl dX7_act_86 ?_
          refine g_get (pc := 87) hX (ci := 7) (fun _ h => List.mem_cons_of_mem _ (List.mem_append_right _ h)) rfl 92 (by omega) (up_ne (by decide) m92) 2 (by decide) (List.mem_of_getElem? (i := 1) rfl) rfl (v := vI (pm)) rfl dX7_act_87 ?_
          refine g_iconst (pc := 90) hX dX7_act_90 ?_
          refine g_iadd (pc := 91) hX dX7_act_91 ?_
          refine g_put (pc := 92) hX (ci := 7) (fun _ h => List.mem_cons_of_mem _ (List.mem_append_right _ h)) rfl tyX7 tyX7_ok nmX7 92 (by omega) (up_ne (by decide) m92) 2 (by decide) (List.mem_of_getElem? (i := 1) rfl) rfl rfl (tyX7_ok 2 (by decide)) rfl (fit_int _) (Nat.le_of_ble_eq_true rfl) dX7_act_92 ?_
          refine g_at rfl rfl rfl (S2 := (va_up (va_up S 94 (AJ w 4800 (actW PV V (1200 * pm) e))) 92 (.inr (7, [.ref (gw_ad w 93), .ref (gw_ad w 94), vI (pm + 1), .ref (gw_ad w 95), vI (tm), .ref (gw_ad w 96), vI (xm), vI (at_), .ref (gw_ad w 97), .ref (gw_ad w 98), .ref (gw_ad w 99), .ref (gw_ad w 100), .ref (gw_ad w 101), vI (wm), vI (wh), vI (bz (ir)), .ref (gw_ad w 102), .ref (gw_ad w 103), .ref (gw_ad w 104)])))) rfl ?_
          refine g_vret (pc := 95) hX hR dX7_act_95 ?_
          have he1 : e = 1200 := by omega
          subst he1
          have e1 : actN pm = pm + 1 := if_neg c_5
          have e2 : actP pm PV V = actW PV V (1200 * pm) 1200 := if_neg c_5
          rw [e1, e2]
          exact ⟨⟨⟨(up_eq _ _ _), (up_ne (by decide) (up_ne (by decide) m93)), (up_ne (by decide) (up_eq _ _ _))⟩, ⟨(up_ne (by decide) (up_ne (by decide) m95)), (up_ne (by decide) (up_ne (by decide) m96))⟩, ⟨(up_ne (by decide) (up_ne (by decide) m97)), (up_ne (by decide) (up_ne (by decide) m98)), (up_ne (by decide) (up_ne (by decide) m99)), (up_ne (by decide) (up_ne (by decide) m100)), (up_ne (by decide) (up_ne (by decide) m101))⟩, ⟨(up_ne (by decide) (up_ne (by decide) m102)), (up_ne (by decide) (up_ne (by decide) m103)), (up_ne (by decide) (up_ne (by decide) m104))⟩⟩, fun q hq => (up_ne (by omega) (up_ne (by omega) rfl))⟩
        · skip
          refine g_aload_n (pc := 58) hX 1 rfl dX7_act_58 ?_
          refine g_get (pc := 59) hX (ci := 7) (fun _ h => List.mem_cons_of_mem _ (List.mem_append_right _ h)) rfl 92 (by omega) (up_ne (by decide) m92) 1 (by decide) (List.mem_of_getElem? (i := 2) rfl) rfl (v := .ref (gw_ad w 94)) rfl dX7_act_59 ?_
          refine g_sipush (pc := 62) hX (by decide) dX7_act_62 ?_
          refine g_aload_n (pc := 65) hX 1 rfl dX7_act_65 ?_
          refine g_get (pc := 66) hX (ci := 7) (fun _ h => List.mem_cons_of_mem _ (List.mem_append_right _ h)) rfl 92 (by omega) (up_ne (by decide) m92) 2 (by decide) (List.mem_of_getElem? (i := 1) rfl) rfl (v := vI (pm)) rfl dX7_act_66 ?_
          refine g_imul (pc := 69) hX dX7_act_69 ?_
          refine g_iload_n (pc := 70) hX 0 rfl dX7_act_70 ?_
          refine g_iadd (pc := 71) hX dX7_act_71 ?_
          refine g_aload_n (pc := 72) hX 1 rfl dX7_act_72 ?_
          refine g_get (pc := 73) hX (ci := 7) (fun _ h => List.mem_cons_of_mem _ (List.mem_append_right _ h)) rfl 92 (by omega) (up_ne (by decide) m92) 0 (by decide) (List.mem_of_getElem? (i := 3) rfl) rfl (v := .ref (gw_ad w 93)) rfl dX7_act_73 ?_
          refine g_iload_n (pc := 76) hX 0 rfl dX7_act_76 ?_
          refine g_lald (pc := 77) hX 93 (by omega) (up_ne (by decide) m93) (by omega) (by omega) (by decide) dX7_act_77 ?_
          refine g_last (pc := 78) hX 94 (by omega) (up_eq _ _ _) (by omega) (by omega) (by decide) dX7_act_78 ?_
          refine g_at rfl rfl rfl (S2 := (va_up (va_up S 94 (AJ w 4800 (actW PV V (1200 * pm) e))) 94 (AJ w 4800 (updZ (actW PV V (1200 * pm) e) ((1200 * pm) + e) (V e))))) rfl ?_
          refine g_iinc (pc := 79) hX (lv2 := [(1, vI (e + 1)), (0, .ref (gw_ad w 92))]) 0 rfl (by decide) rfl dX7_act_79 ?_
          refine g_goto (pc := 82) (tgt := 51) hX dX7_act_82 (by decide) ?_
          refine g_sub (lv2 := [(1, vI (e + 1)), (0, .ref (gw_ad w 92))]) [0, 1] rfl ?_
          refine g_at rfl (lv2 := [(1, vI (e + 1)), (0, .ref (gw_ad w 92))]) (rfl) rfl (S2 := (va_up S 94 (AJ w 4800 (actW PV V (1200 * pm) (e + 1))))) (by rw [up_up, actW_s h1e]) ?_
          exact ihlb (e + 1)  (by omega) (by omega) (by omega) 
    refine g_sub (lv2 := [(1, vI (0)), (0, .ref (gw_ad w 92))]) [0, 1] rfl ?_
    refine g_at rfl (lv2 := [(1, vI (0)), (0, .ref (gw_ad w 92))]) (rfl) rfl (S2 := (va_up S 94 (AJ w 4800 (actW PV V (1200 * pm) 0)))) (by rw [actW_0, up_self (f := S) m94]) ?_
    exact lb ((1200 : Int) - 0 + 1).toNat 0  (by omega) (by omega) (by omega) 
  · skip
    refine g_iconst (pc := 8) hX dX7_act_8 ?_
    refine g_istore_n (pc := 9) hX (lv2 := [(1, vI (0)), (0, .ref (gw_ad w 92))]) rfl (by decide) rfl dX7_act_9 ?_
    have la : ∀ (n0 : Nat) (c : Int), 0 ≤ c → c ≤ 3600 → 3600 - c < n0 → G w { frames := 0, cells := 0, slots := 0, locals := 0 } X 2 10 [(1, vI (c)), (0, .ref (gw_ad w 92))] [] (va_up S 94 (AJ w 4800 (actS PV c))) := by
      intro n0
      induction n0 with
      | zero => intro c  h1c h2c h3c; exact absurd h3c (by omega)
      | succ n0 ihla =>
        intro c  h1c h2c h3c 
        have hc : inI c := inI_mk (by omega) (by omega)
        refine g_iload_n (pc := 10) hX 0 rfl dX7_act_10 ?_
        refine g_sipush (pc := 11) hX (by decide) dX7_act_11 ?_
        refine g_icmp_ge (pc := 14) (tgt := 39) hX (by first | assumption | exact inI_mk (by omega) (by omega)) (by first | assumption | exact inI_mk (by omega) (by omega)) dX7_act_14 (by decide) (fun c_14 => ?_) (fun c_14 => ?_)
        · skip
          refine g_aload_n (pc := 39) hX 1 rfl dX7_act_39 ?_
          refine g_dup (pc := 40) hX rfl dX7_act_40 ?_
          refine g_get (pc := 41) hX (ci := 7) (fun _ h => List.mem_cons_of_mem _ (List.mem_append_right _ h)) rfl 92 (by omega) (up_ne (by decide) m92) 2 (by decide) (List.mem_of_getElem? (i := 1) rfl) rfl (v := vI (pm)) rfl dX7_act_41 ?_
          refine g_iconst (pc := 44) hX dX7_act_44 ?_
          refine g_isub (pc := 45) hX dX7_act_45 ?_
          refine g_put (pc := 46) hX (ci := 7) (fun _ h => List.mem_cons_of_mem _ (List.mem_append_right _ h)) rfl tyX7 tyX7_ok nmX7 92 (by omega) (up_ne (by decide) m92) 2 (by decide) (List.mem_of_getElem? (i := 1) rfl) rfl rfl (tyX7_ok 2 (by decide)) rfl (fit_int _) (Nat.le_of_ble_eq_true rfl) dX7_act_46 ?_
          refine g_at rfl rfl rfl (S2 := (va_up (va_up S 94 (AJ w 4800 (actS PV c))) 92 (.inr (7, [.ref (gw_ad w 93), .ref (gw_ad w 94), vI (pm - 1), .ref (gw_ad w 95), vI (tm), .ref (gw_ad w 96), vI (xm), vI (at_), .ref (gw_ad w 97), .ref (gw_ad w 98), .ref (gw_ad w 99), .ref (gw_ad w 100), .ref (gw_ad w 101), vI (wm), vI (wh), vI (bz (ir)), .ref (gw_ad w 102), .ref (gw_ad w 103), .ref (gw_ad w 104)])))) rfl ?_
          refine g_iconst (pc := 49) hX dX7_act_49 ?_
          refine g_istore_n (pc := 50) hX (lv2 := [(1, vI (0)), (0, .ref (gw_ad w 92))]) rfl (by decide) rfl dX7_act_50 ?_
          have lb : ∀ (n0 : Nat) (e : Int), 0 ≤ e → e ≤ 1200 → 1200 - e < n0 → G w { frames := 0, cells := 0, slots := 0, locals := 0 } X 2 51 [(1, vI (e)), (0, .ref (gw_ad w 92))] [] (va_up (va_up (va_up S 94 (AJ w 4800 (actS PV c))) 92 (.inr (7, [.ref (gw_ad w 93), .ref (gw_ad w 94), vI (pm - 1), .ref (gw_ad w 95), vI (tm), .ref (gw_ad w 96), vI (xm), vI (at_), .ref (gw_ad w 97), .ref (gw_ad w 98), .ref (gw_ad w 99), .ref (gw_ad w 100), .ref (gw_ad w 101), vI (wm), vI (wh), vI (bz (ir)), .ref (gw_ad w 102), .ref (gw_ad w 103), .ref (gw_ad w 104)]))) 94 (AJ w 4800 (actW (actS PV c) V (1200 * (pm - 1)) e))) := by
            intro n0
            induction n0 with
            | zero => intro e  h1e h2e h3e; exact absurd h3e (by omega)
            | succ n0 ihlb =>
              intro e  h1e h2e h3e 
              have he : inI e := inI_mk (by omega) (by omega)
              refine g_iload_n (pc := 51) hX 0 rfl dX7_act_51 ?_
              refine g_sipush (pc := 52) hX (by decide) dX7_act_52 ?_
              refine g_icmp_ge (pc := 55) (tgt := 85) hX (by first | assumption | exact inI_mk (by omega) (by omega)) (by first | assumption | exact inI_mk (by omega) (by omega)) dX7_act_55 (by decide) (fun c_55 => ?_) (fun c_55 => ?_)
              · skip
                refine g_aload_n (pc := 85) hX 1 rfl dX7_act_85 ?_
                refine g_dup (pc := 86) hX rfl dX7_act_86 ?_
                refine g_get (pc := 87) hX (ci := 7) (fun _ h => List.mem_cons_of_mem _ (List.mem_append_right _ h)) rfl 92 (by omega) (up_ne (by decide) (up_eq _ _ _)) 2 (by decide) (List.mem_of_getElem? (i := 1) rfl) rfl (v := vI (pm - 1)) rfl dX7_act_87 ?_
                refine g_iconst (pc := 90) hX dX7_act_90 ?_
                refine g_iadd (pc := 91) hX dX7_act_91 ?_
                refine g_put (pc := 92) hX (ci := 7) (fun _ h => List.mem_cons_of_mem _ (List.mem_append_right _ h)) rfl tyX7 tyX7_ok nmX7 92 (by omega) (up_ne (by decide) (up_eq _ _ _)) 2 (by decide) (List.mem_of_getElem? (i := 1) rfl) rfl rfl (tyX7_ok 2 (by decide)) rfl (fit_int _) (Nat.le_of_ble_eq_true rfl) dX7_act_92 ?_
                refine g_at rfl rfl rfl (S2 := (va_up (va_up (va_up (va_up S 94 (AJ w 4800 (actS PV c))) 92 (.inr (7, [.ref (gw_ad w 93), .ref (gw_ad w 94), vI (pm - 1), .ref (gw_ad w 95), vI (tm), .ref (gw_ad w 96), vI (xm), vI (at_), .ref (gw_ad w 97), .ref (gw_ad w 98), .ref (gw_ad w 99), .ref (gw_ad w 100), .ref (gw_ad w 101), vI (wm), vI (wh), vI (bz (ir)), .ref (gw_ad w 102), .ref (gw_ad w 103), .ref (gw_ad w 104)]))) 94 (AJ w 4800 (actW (actS PV c) V (1200 * (pm - 1)) e))) 92 (.inr (7, [.ref (gw_ad w 93), .ref (gw_ad w 94), vI ((pm - 1) + 1), .ref (gw_ad w 95), vI (tm), .ref (gw_ad w 96), vI (xm), vI (at_), .ref (gw_ad w 97), .ref (gw_ad w 98), .ref (gw_ad w 99), .ref (gw_ad w 100), .ref (gw_ad w 101), vI (wm), vI (wh), vI (bz (ir)), .ref (gw_ad w 102), .ref (gw_ad w 103), .ref (gw_ad w 104)])))) rfl ?_
                refine g_vret (pc := 95) hX hR dX7_act_95 ?_
                have hc1 : c = 3600 := by omega
                subst hc1
                have he1 : e = 1200 := by omega
                subst he1
                have e1 : actN pm = pm - 1 + 1 := by unfold actN; rw [if_pos c_5]; omega
                have e2 : actP pm PV V = actW (actS PV 3600) V (1200 * (pm - 1)) 1200 := by unfold actP; rw [if_pos c_5, show pm - 1 = 3 by omega, show (1200 : Int) * 3 = 3600 from rfl]
                rw [e1, e2]
                exact ⟨⟨⟨(up_eq _ _ _), (up_ne (by decide) (up_ne (by decide) (up_ne (by decide) (up_ne (by decide) m93)))), (up_ne (by decide) (up_eq _ _ _))⟩, ⟨(up_ne (by decide) (up_ne (by decide) (up_ne (by decide) (up_ne (by decide) m95)))), (up_ne (by decide) (up_ne (by decide) (up_ne (by decide) (up_ne (by decide) m96))))⟩, ⟨(up_ne (by decide) (up_ne (by decide) (up_ne (by decide) (up_ne (by decide) m97)))), (up_ne (by decide) (up_ne (by decide) (up_ne (by decide) (up_ne (by decide) m98)))), (up_ne (by decide) (up_ne (by decide) (up_ne (by decide) (up_ne (by decide) m99)))), (up_ne (by decide) (up_ne (by decide) (up_ne (by decide) (up_ne (by decide) m100)))), (up_ne (by decide) (up_ne (by decide) (up_ne (by decide) (up_ne (by decide) m101))))⟩, ⟨(up_ne (by decide) (up_ne (by decide) (up_ne (by decide) (up_ne (by decide) m102)))), (up_ne (by decide) (up_ne (by decide) (up_ne (by decide) (up_ne (by decide) m103)))), (up_ne (by decide) (up_ne (by decide) (up_ne (by decide) (up_ne (by decide) m104))))⟩⟩, fun q hq => (up_ne (by omega) (up_ne (by omega) (up_ne (by omega) (up_ne (by omega) rfl))))⟩
              · skip
                refine g_aload_n (pc := 58) hX 1 rfl dX7_act_58 ?_
                refine g_get (pc := 59) hX (ci := 7) (fun _ h => List.mem_cons_of_mem _ (List.mem_append_right _ h)) rfl 92 (by omega) (up_ne (by decide) (up_eq _ _ _)) 1 (by decide) (List.mem_of_getElem? (i := 2) rfl) rfl (v := .ref (gw_ad w 94)) rfl dX7_act_59 ?_
                refine g_sipush (pc := 62) hX (by decide) dX7_act_62 ?_
                refine g_aload_n (pc := 65) hX 1 rfl dX7_act_65 ?_
                refine g_get (pc := 66) hX (ci := 7) (fun _ h => List.mem_cons_of_mem _ (List.mem_append_right _ h)) rfl 92 (by omega) (up_ne (by decide) (up_eq _ _ _)) 2 (by decide) (List.mem_of_getElem? (i := 1) rfl) rfl (v := vI (pm - 1)) rfl dX7_act_66 ?_
                refine g_imul (pc := 69) hX dX7_act_69 ?_
                refine g_iload_n (pc := 70) hX 0 rfl dX7_act_70 ?_
                refine g_iadd (pc := 71) hX dX7_act_71 ?_
                refine g_aload_n (pc := 72) hX 1 rfl dX7_act_72 ?_
                refine g_get (pc := 73) hX (ci := 7) (fun _ h => List.mem_cons_of_mem _ (List.mem_append_right _ h)) rfl 92 (by omega) (up_ne (by decide) (up_eq _ _ _)) 0 (by decide) (List.mem_of_getElem? (i := 3) rfl) rfl (v := .ref (gw_ad w 93)) rfl dX7_act_73 ?_
                refine g_iload_n (pc := 76) hX 0 rfl dX7_act_76 ?_
                refine g_lald (pc := 77) hX 93 (by omega) (up_ne (by decide) (up_ne (by decide) (up_ne (by decide) m93))) (by omega) (by omega) (by decide) dX7_act_77 ?_
                refine g_last (pc := 78) hX 94 (by omega) (up_eq _ _ _) (by omega) (by omega) (by decide) dX7_act_78 ?_
                refine g_at rfl rfl rfl (S2 := (va_up (va_up (va_up (va_up S 94 (AJ w 4800 (actS PV c))) 92 (.inr (7, [.ref (gw_ad w 93), .ref (gw_ad w 94), vI (pm - 1), .ref (gw_ad w 95), vI (tm), .ref (gw_ad w 96), vI (xm), vI (at_), .ref (gw_ad w 97), .ref (gw_ad w 98), .ref (gw_ad w 99), .ref (gw_ad w 100), .ref (gw_ad w 101), vI (wm), vI (wh), vI (bz (ir)), .ref (gw_ad w 102), .ref (gw_ad w 103), .ref (gw_ad w 104)]))) 94 (AJ w 4800 (actW (actS PV c) V (1200 * (pm - 1)) e))) 94 (AJ w 4800 (updZ (actW (actS PV c) V (1200 * (pm - 1)) e) ((1200 * (pm - 1)) + e) (V e))))) rfl ?_
                refine g_iinc (pc := 79) hX (lv2 := [(1, vI (e + 1)), (0, .ref (gw_ad w 92))]) 0 rfl (by decide) rfl dX7_act_79 ?_
                refine g_goto (pc := 82) (tgt := 51) hX dX7_act_82 (by decide) ?_
                refine g_sub (lv2 := [(1, vI (e + 1)), (0, .ref (gw_ad w 92))]) [0, 1] rfl ?_
                refine g_at rfl (lv2 := [(1, vI (e + 1)), (0, .ref (gw_ad w 92))]) (rfl) rfl (S2 := (va_up (va_up (va_up S 94 (AJ w 4800 (actS PV c))) 92 (.inr (7, [.ref (gw_ad w 93), .ref (gw_ad w 94), vI (pm - 1), .ref (gw_ad w 95), vI (tm), .ref (gw_ad w 96), vI (xm), vI (at_), .ref (gw_ad w 97), .ref (gw_ad w 98), .ref (gw_ad w 99), .ref (gw_ad w 100), .ref (gw_ad w 101), vI (wm), vI (wh), vI (bz (ir)), .ref (gw_ad w 102), .ref (gw_ad w 103), .ref (gw_ad w 104)]))) 94 (AJ w 4800 (actW (actS PV c) V (1200 * (pm - 1)) (e + 1))))) (by rw [up_up, actW_s h1e]) ?_
                exact ihlb (e + 1)  (by omega) (by omega) (by omega) 
          refine g_sub (lv2 := [(1, vI (0)), (0, .ref (gw_ad w 92))]) [0, 1] rfl ?_
          refine g_at rfl (lv2 := [(1, vI (0)), (0, .ref (gw_ad w 92))]) (rfl) rfl (S2 := (va_up (va_up (va_up S 94 (AJ w 4800 (actS PV c))) 92 (.inr (7, [.ref (gw_ad w 93), .ref (gw_ad w 94), vI (pm - 1), .ref (gw_ad w 95), vI (tm), .ref (gw_ad w 96), vI (xm), vI (at_), .ref (gw_ad w 97), .ref (gw_ad w 98), .ref (gw_ad w 99), .ref (gw_ad w 100), .ref (gw_ad w 101), vI (wm), vI (wh), vI (bz (ir)), .ref (gw_ad w 102), .ref (gw_ad w 103), .ref (gw_ad w 104)]))) 94 (AJ w 4800 (actW (actS PV c) V (1200 * (pm - 1)) 0)))) (by rw [actW_0, up_self (f := (va_up (va_up S 94 (AJ w 4800 (actS PV c))) 92 (.inr (7, [.ref (gw_ad w 93), .ref (gw_ad w 94), vI (pm - 1), .ref (gw_ad w 95), vI (tm), .ref (gw_ad w 96), vI (xm), vI (at_), .ref (gw_ad w 97), .ref (gw_ad w 98), .ref (gw_ad w 99), .ref (gw_ad w 100), .ref (gw_ad w 101), vI (wm), vI (wh), vI (bz (ir)), .ref (gw_ad w 102), .ref (gw_ad w 103), .ref (gw_ad w 104)])))) (up_ne (by decide) (up_eq _ _ _))]) ?_
          exact lb ((1200 : Int) - 0 + 1).toNat 0  (by omega) (by omega) (by omega) 
        · skip
          refine g_aload_n (pc := 17) hX 1 rfl dX7_act_17 ?_
          refine g_get (pc := 18) hX (ci := 7) (fun _ h => List.mem_cons_of_mem _ (List.mem_append_right _ h)) rfl 92 (by omega) (up_ne (by decide) m92) 1 (by decide) (List.mem_of_getElem? (i := 2) rfl) rfl (v := .ref (gw_ad w 94)) rfl dX7_act_18 ?_
          refine g_iload_n (pc := 21) hX 0 rfl dX7_act_21 ?_
          refine g_aload_n (pc := 22) hX 1 rfl dX7_act_22 ?_
          refine g_get (pc := 23) hX (ci := 7) (fun _ h => List.mem_cons_of_mem _ (List.mem_append_right _ h)) rfl 92 (by omega) (up_ne (by decide) m92) 1 (by decide) (List.mem_of_getElem? (i := 2) rfl) rfl (v := .ref (gw_ad w 94)) rfl dX7_act_23 ?_
          refine g_iload_n (pc := 26) hX 0 rfl dX7_act_26 ?_
          refine g_sipush (pc := 27) hX (by decide) dX7_act_27 ?_
          refine g_iadd (pc := 30) hX dX7_act_30 ?_
          refine g_lald (pc := 31) hX 94 (by omega) (up_eq _ _ _) (by omega) (by omega) (by decide) dX7_act_31 ?_
          refine g_last (pc := 32) hX 94 (by omega) (up_eq _ _ _) (by omega) (by omega) (by decide) dX7_act_32 ?_
          refine g_at rfl rfl rfl (S2 := (va_up (va_up S 94 (AJ w 4800 (actS PV c))) 94 (AJ w 4800 (updZ (actS PV c) (c) ((actS PV c) (c + 1200)))))) rfl ?_
          refine g_iinc (pc := 33) hX (lv2 := [(1, vI (c + 1)), (0, .ref (gw_ad w 92))]) 0 rfl (by decide) rfl dX7_act_33 ?_
          refine g_goto (pc := 36) (tgt := 10) hX dX7_act_36 (by decide) ?_
          refine g_sub (lv2 := [(1, vI (c + 1)), (0, .ref (gw_ad w 92))]) [0, 1] rfl ?_
          refine g_at rfl (lv2 := [(1, vI (c + 1)), (0, .ref (gw_ad w 92))]) (rfl) rfl (S2 := (va_up S 94 (AJ w 4800 (actS PV (c + 1))))) (by rw [up_up, actS_s h1c]) ?_
          exact ihla (c + 1)  (by omega) (by omega) (by omega) 
    refine g_sub (lv2 := [(1, vI (0)), (0, .ref (gw_ad w 92))]) [0, 1] rfl ?_
    refine g_at rfl (lv2 := [(1, vI (0)), (0, .ref (gw_ad w 92))]) (rfl) rfl (S2 := (va_up S 94 (AJ w 4800 (actS PV 0)))) (by rw [actS_0, up_self (f := S) m94]) ?_
    exact la ((3600 : Int) - 0 + 1).toNat 0  (by omega) (by omega) (by omega) 

set_option maxHeartbeats 4000000 in
set_option maxRecDepth 100000 in
theorem c_X7_sets {w : gW} {l : Launch} {S : Nat → va_E} {pm tm xm at_ wm wh : Int} {ir : Bool} {V PV TY TX MK MM CH AM WT WK FL PI : Int → Int} (hN : gw_N w = 105) (hm : modelAt w pm tm xm at_ wm wh ir V PV TY TX MK MM CH AM WT WK FL PI S) {i x : Int} (hpm : 0 ≤ pm ∧ pm ≤ 4) (h0 : 0 ≤ i) (h1 : i < 1200) (hx : inI x) :
    GM1 w l yX7_sets wsX7_sets { frames := 1, cells := 0, slots := 0, locals := 21 } [.ref (gw_ad w 92), vI (i), vI (x)] S
      (fun v S' => v = vI (V i) ∧ POSTM w S (actN pm) tm xm at_ wm wh ir (updZ V i x) (actP pm PV V) TY TX MK MM CH AM WT WK FL PI S') := by
  refine GM.start (own := RX7) (n := "sets") (d := "(II)I") (by decide) rfl (Nat.le_of_ble_eq_true rfl) ?_
  intro X hX hR hXl
  subst hXl
  refine g_at rfl (lv2 := [(0, .ref (gw_ad w 92)), (1, vI (i)), (2, vI (x))]) rfl rfl rfl ?_
  obtain ⟨⟨m92, m93, m94⟩, ⟨m95, m96⟩, ⟨m97, m98, m99, m100, m101⟩, ⟨m102, m103, m104⟩⟩ := (id hm)
  refine g_aload_n (pc := 0) hX 0 rfl dX7_sets_0 ?_
  refine g_callV0 (pc := 1) (ci := 7) (As := []) (st2 := []) hX 92 (by omega) m92 rfl (c_X7_act hN hm hpm) gX7_sets_X7_act (n := 0) (hw := rfl) (hrc := rfl) (hrs := rfl) (hd := by decide +kernel) (hR := ⟨Nat.le_of_ble_eq_true rfl, Nat.le_of_ble_eq_true rfl⟩) (hn := rfl) (hst := rfl) (hsum := Nat.le_of_ble_eq_true rfl) (hdg := dX7_sets_1) ?_
  rintro S1 hP1
  obtain ⟨⟨m1_92, m1_93, m1_94⟩, ⟨m1_95, m1_96⟩, ⟨m1_97, m1_98, m1_99, m1_100, m1_101⟩, ⟨m1_102, m1_103, m1_104⟩⟩ := hP1.1
  refine g_at (pc2 := 4) rfl rfl (st2 := []) rfl (S2 := S1) rfl ?_
  refine g_aload_n (pc := 4) hX 0 rfl dX7_sets_4 ?_
  refine g_get (pc := 5) hX (ci := 7) (fun _ h => List.mem_cons_of_mem _ (List.mem_append_right _ h)) rfl 92 (by omega) m1_92 0 (by decide) (List.mem_of_getElem? (i := 1) rfl) rfl (v := .ref (gw_ad w 93)) rfl dX7_sets_5 ?_
  refine g_iload_n (pc := 8) hX 1 rfl dX7_sets_8 ?_
  refine g_lald (pc := 9) hX 93 (by omega) m1_93 (by omega) (by omega) (by decide) dX7_sets_9 ?_
  refine g_l2i (pc := 10) hX dX7_sets_10 ?_
  refine g_istore_n (pc := 11) hX (lv2 := [(3, vI (V i)), (0, .ref (gw_ad w 92)), (1, vI (i)), (2, vI (x))]) rfl (by decide) rfl dX7_sets_11 ?_
  refine g_aload_n (pc := 12) hX 1 rfl dX7_sets_12 ?_
  refine g_get (pc := 13) hX (ci := 7) (fun _ h => List.mem_cons_of_mem _ (List.mem_append_right _ h)) rfl 92 (by omega) m1_92 0 (by decide) (List.mem_of_getElem? (i := 1) rfl) rfl (v := .ref (gw_ad w 93)) rfl dX7_sets_13 ?_
  refine g_iload_n (pc := 16) hX 2 rfl dX7_sets_16 ?_
  refine g_iload_n (pc := 17) hX 3 rfl dX7_sets_17 ?_
  refine g_i2l (pc := 18) hX (by first | assumption | exact inI_mk (by omega) (by omega)) dX7_sets_18 ?_
  refine g_last (pc := 19) hX 93 (by omega) m1_93 (by omega) (by omega) (by decide) dX7_sets_19 ?_
  refine g_at rfl rfl rfl (S2 := (va_up S1 93 (AJ w 1200 (updZ (V) (i) (x))))) rfl ?_
  refine g_iload_n (pc := 20) hX 0 rfl dX7_sets_20 ?_
  refine g_iret (pc := 21) hX hR dX7_sets_21 ?_
  exact ⟨rfl, ⟨⟨⟨(up_ne (by decide) m1_92), (up_eq _ _ _), (up_ne (by decide) m1_94)⟩, ⟨(up_ne (by decide) m1_95), (up_ne (by decide) m1_96)⟩, ⟨(up_ne (by decide) m1_97), (up_ne (by decide) m1_98), (up_ne (by decide) m1_99), (up_ne (by decide) m1_100), (up_ne (by decide) m1_101)⟩, ⟨(up_ne (by decide) m1_102), (up_ne (by decide) m1_103), (up_ne (by decide) m1_104)⟩⟩, fun q hq => (up_ne (by omega) ((hP1.2 q hq).trans rfl))⟩⟩

set_option maxHeartbeats 4000000 in
set_option maxRecDepth 100000 in
theorem c_X7_raw {w : gW} {l : Launch} {S : Nat → va_E} {pm tm xm at_ wm wh : Int} {ir : Bool} {V PV TY TX MK MM CH AM WT WK FL PI : Int → Int} (hN : gw_N w = 105) (hm : modelAt w pm tm xm at_ wm wh ir V PV TY TX MK MM CH AM WT WK FL PI S) (hr : rwOK V) :
    GM1 w l yX7_raw wsX7_raw { frames := 1, cells := 0, slots := 0, locals := 25 } [.ref (gw_ad w 92)] S
      (fun v S' => v = vL (rawV V) ∧ S' = S) := by
  refine GM.start (own := RX7) (n := "raw") (d := "()J") (by decide) rfl (Nat.le_of_ble_eq_true rfl) ?_
  intro X hX hR hXl
  subst hXl
  refine g_at rfl (lv2 := [(0, .ref (gw_ad w 92))]) rfl rfl rfl ?_
  obtain ⟨⟨m92, m93, m94⟩, ⟨m95, m96⟩, ⟨m97, m98, m99, m100, m101⟩, ⟨m102, m103, m104⟩⟩ := (id hm)
  have hrm := rawV_m hr
  obtain ⟨r1, r2, r3⟩ := id hr
  refine g_aload_n (pc := 0) hX 0 rfl dX7_raw_0 ?_
  refine g_get (pc := 1) hX (ci := 7) (fun _ h => List.mem_cons_of_mem _ (List.mem_append_right _ h)) rfl 92 (by omega) m92 0 (by decide) (List.mem_of_getElem? (i := 1) rfl) rfl (v := .ref (gw_ad w 93)) rfl dX7_raw_1 ?_
  refine g_bipush (pc := 4) hX (by decide) dX7_raw_4 ?_
  refine g_lald (pc := 6) hX 93 (by omega) m93 (by omega) (by omega) (by decide) dX7_raw_6 ?_
  refine g_ldc2 (pc := 7) hX (z := 1000) (List.mem_of_getElem? (i := 2) rfl) (by decide +kernel) dX7_raw_7 ?_
  refine g_aload_n (pc := 10) hX 0 rfl dX7_raw_10 ?_
  refine g_get (pc := 11) hX (ci := 7) (fun _ h => List.mem_cons_of_mem _ (List.mem_append_right _ h)) rfl 92 (by omega) m92 0 (by decide) (List.mem_of_getElem? (i := 1) rfl) rfl (v := .ref (gw_ad w 93)) rfl dX7_raw_11 ?_
  refine g_iconst (pc := 14) hX dX7_raw_14 ?_
  refine g_lald (pc := 15) hX 93 (by omega) m93 (by omega) (by omega) (by decide) dX7_raw_15 ?_
  refine g_ladd (pc := 16) hX dX7_raw_16 ?_
  refine g_lmul (pc := 17) hX dX7_raw_17 ?_
  refine g_ldc2 (pc := 18) hX (z := 1000) (List.mem_of_getElem? (i := 2) rfl) (by decide +kernel) dX7_raw_18 ?_
  refine g_callT1 (pc := 21) (As := [vL ((V 8) * (1000 + (V 1))), vL (1000)]) (st2 := []) hX (c_X7_div (x := (V 8) * (1000 + (V 1))) (y := 1000) (by omega) (by omega)) gX7_raw_X7_div (n := 2) (hw := rfl) (hrc := rfl) (hrs := rfl) (hd := by decide +kernel) (hR := ⟨Nat.le_of_ble_eq_true rfl, Nat.le_of_ble_eq_true rfl⟩) (hn := rfl) (hst := rfl) (hsum := Nat.le_of_ble_eq_true rfl) (hdg := dX7_raw_21) ?_
  rintro _ S9 ⟨rfl, e9⟩
  rw [e9]
  clear e9 S9
  refine g_at (pc2 := 24) rfl rfl (st2 := [vL (((V 8) * (1000 + (V 1))) / 1000)]) rfl (S2 := S) rfl ?_
  refine g_aload_n (pc := 24) hX 0 rfl dX7_raw_24 ?_
  refine g_get (pc := 25) hX (ci := 7) (fun _ h => List.mem_cons_of_mem _ (List.mem_append_right _ h)) rfl 92 (by omega) m92 0 (by decide) (List.mem_of_getElem? (i := 1) rfl) rfl (v := .ref (gw_ad w 93)) rfl dX7_raw_25 ?_
  refine g_bipush (pc := 28) hX (by decide) dX7_raw_28 ?_
  refine g_lald (pc := 30) hX 93 (by omega) m93 (by omega) (by omega) (by decide) dX7_raw_30 ?_
  refine g_ladd (pc := 31) hX dX7_raw_31 ?_
  refine g_lret (pc := 32) hX hR dX7_raw_32 ?_
  exact ⟨rfl, rfl⟩

set_option maxHeartbeats 4000000 in
set_option maxRecDepth 100000 in
theorem c_X7_isOver {w : gW} {l : Launch} {S : Nat → va_E} {pm tm xm at_ wm wh : Int} {ir : Bool} {V PV TY TX MK MM CH AM WT WK FL PI : Int → Int} (hN : gw_N w = 105) (hm : modelAt w pm tm xm at_ wm wh ir V PV TY TX MK MM CH AM WT WK FL PI S) (hv : mOK V) :
    GM1 w l yX7_isOver wsX7_isOver { frames := 2, cells := 0, slots := 0, locals := 45 } [.ref (gw_ad w 92)] S
      (fun v S' => v = vI (bz (ovrV V)) ∧ S' = S) := by
  refine GM.start (own := RX7) (n := "isOver") (d := "()Z") (by decide) rfl (Nat.le_of_ble_eq_true rfl) ?_
  intro X hX hR hXl
  subst hXl
  refine g_at rfl (lv2 := [(0, .ref (gw_ad w 92))]) rfl rfl rfl ?_
  obtain ⟨⟨m92, m93, m94⟩, ⟨m95, m96⟩, ⟨m97, m98, m99, m100, m101⟩, ⟨m102, m103, m104⟩⟩ := (id hm)
  have hr := hv.r
  have hrm := rawV_m hr
  have hrb := rawV_b hr
  obtain ⟨⟨⟨⟨f0a, f0b⟩, ⟨f1a, f1b⟩, ⟨f2a, f2b⟩, ⟨f3a, f3b⟩⟩, ⟨⟨f4a, f4b⟩, ⟨f5a, f5b⟩, ⟨f6a, f6b⟩, ⟨f7a, f7b⟩⟩⟩, ⟨⟨a8a, a8b⟩, ⟨a9a, a9b⟩, ⟨a10a, a10b⟩, ⟨a11a, a11b⟩, ⟨a12a, a12b⟩, ⟨a13a, a13b⟩⟩, ⟨⟨a14a, a14b⟩, ⟨a15a, a15b⟩, ⟨a16a, a16b⟩, ⟨a17a, a17b⟩⟩⟩ := id hv
  refine g_aload_n (pc := 0) hX 0 rfl dX7_isOver_0 ?_
  refine g_callV1 (pc := 1) (ci := 7) (As := []) (st2 := []) hX 92 (by omega) m92 rfl (c_X7_raw hN hm hr) gX7_isOver_X7_raw (n := 0) (hw := rfl) (hrc := rfl) (hrs := rfl) (hd := by decide +kernel) (hR := ⟨Nat.le_of_ble_eq_true rfl, Nat.le_of_ble_eq_true rfl⟩) (hn := rfl) (hst := rfl) (hsum := Nat.le_of_ble_eq_true rfl) (hdg := dX7_isOver_1) ?_
  rintro _ S9 ⟨rfl, e9⟩
  rw [e9]
  clear e9 S9
  refine g_at (pc2 := 4) rfl rfl (st2 := [vL (rawV V)]) rfl (S2 := S) rfl ?_
  refine g_aload_n (pc := 4) hX 0 rfl dX7_isOver_4 ?_
  refine g_get (pc := 5) hX (ci := 7) (fun _ h => List.mem_cons_of_mem _ (List.mem_append_right _ h)) rfl 92 (by omega) m92 0 (by decide) (List.mem_of_getElem? (i := 1) rfl) rfl (v := .ref (gw_ad w 93)) rfl dX7_isOver_5 ?_
  refine g_bipush (pc := 8) hX (by decide) dX7_isOver_8 ?_
  refine g_lald (pc := 10) hX 93 (by omega) m93 (by omega) (by omega) (by decide) dX7_isOver_10 ?_
  refine g_lsub (pc := 11) hX dX7_isOver_11 ?_
  refine g_aload_n (pc := 12) hX 0 rfl dX7_isOver_12 ?_
  refine g_get (pc := 13) hX (ci := 7) (fun _ h => List.mem_cons_of_mem _ (List.mem_append_right _ h)) rfl 92 (by omega) m92 0 (by decide) (List.mem_of_getElem? (i := 1) rfl) rfl (v := .ref (gw_ad w 93)) rfl dX7_isOver_13 ?_
  refine g_iconst (pc := 16) hX dX7_isOver_16 ?_
  refine g_lald (pc := 17) hX 93 (by omega) m93 (by omega) (by omega) (by decide) dX7_isOver_17 ?_
  refine g_lcmp_le (pc := 18) (tgt := 26) hX (by first | assumption | exact inI_L (by assumption) | exact inL_mk (by omega) (by omega)) (by first | assumption | exact inI_L (by assumption) | exact inL_mk (by omega) (by omega)) dX7_isOver_18 dX7_isOver_19 (by decide) (fun c_18 => ?_) (fun c_18 => ?_)
  · skip
    refine g_iconst (pc := 26) hX dX7_isOver_26 ?_
    refine g_at rfl rfl (st2 := [vI (bz false)]) rfl rfl ?_
    refine g_zret (pc := 27) hX hR dX7_isOver_27 ?_
    exact ⟨vB_f (df (by omega)), rfl⟩
  · skip
    refine g_iconst (pc := 22) hX dX7_isOver_22 ?_
    refine g_goto (pc := 23) (tgt := 27) hX dX7_isOver_23 (by decide) ?_
    refine g_at rfl rfl (st2 := [vI (bz true)]) rfl rfl ?_
    refine g_zret (pc := 27) hX hR dX7_isOver_27 ?_
    exact ⟨vB_t (dt (by omega)), rfl⟩

set_option maxHeartbeats 4000000 in
set_option maxRecDepth 100000 in
theorem c_X7_gross {w : gW} {l : Launch} {S : Nat → va_E} {pm tm xm at_ wm wh : Int} {ir : Bool} {V PV TY TX MK MM CH AM WT WK FL PI : Int → Int} (hN : gw_N w = 105) (hm : modelAt w pm tm xm at_ wm wh ir V PV TY TX MK MM CH AM WT WK FL PI S) (hv : mOK V) :
    GM1 w l yX7_gross wsX7_gross { frames := 2, cells := 0, slots := 0, locals := 45 } [.ref (gw_ad w 92)] S
      (fun v S' => v = vL (groV V) ∧ S' = S) := by
  refine GM.start (own := RX7) (n := "gross") (d := "()J") (by decide) rfl (Nat.le_of_ble_eq_true rfl) ?_
  intro X hX hR hXl
  subst hXl
  refine g_at rfl (lv2 := [(0, .ref (gw_ad w 92))]) rfl rfl rfl ?_
  obtain ⟨⟨m92, m93, m94⟩, ⟨m95, m96⟩, ⟨m97, m98, m99, m100, m101⟩, ⟨m102, m103, m104⟩⟩ := (id hm)
  have hr := hv.r
  have hrm := rawV_m hr
  have hrb := rawV_b hr
  obtain ⟨⟨⟨⟨f0a, f0b⟩, ⟨f1a, f1b⟩, ⟨f2a, f2b⟩, ⟨f3a, f3b⟩⟩, ⟨⟨f4a, f4b⟩, ⟨f5a, f5b⟩, ⟨f6a, f6b⟩, ⟨f7a, f7b⟩⟩⟩, ⟨⟨a8a, a8b⟩, ⟨a9a, a9b⟩, ⟨a10a, a10b⟩, ⟨a11a, a11b⟩, ⟨a12a, a12b⟩, ⟨a13a, a13b⟩⟩, ⟨⟨a14a, a14b⟩, ⟨a15a, a15b⟩, ⟨a16a, a16b⟩, ⟨a17a, a17b⟩⟩⟩ := id hv
  refine g_aload_n (pc := 0) hX 0 rfl dX7_gross_0 ?_
  refine g_get (pc := 1) hX (ci := 7) (fun _ h => List.mem_cons_of_mem _ (List.mem_append_right _ h)) rfl 92 (by omega) m92 0 (by decide) (List.mem_of_getElem? (i := 1) rfl) rfl (v := .ref (gw_ad w 93)) rfl dX7_gross_1 ?_
  refine g_iconst (pc := 4) hX dX7_gross_4 ?_
  refine g_lald (pc := 5) hX 93 (by omega) m93 (by omega) (by omega) (by decide) dX7_gross_5 ?_
  refine g_ldc2 (pc := 6) hX (z := 2) (List.mem_of_getElem? (i := 2) rfl) (by decide +kernel) dX7_gross_6 ?_
  refine g_aload_n (pc := 9) hX 0 rfl dX7_gross_9 ?_
  refine g_callV1 (pc := 10) (ci := 7) (As := []) (st2 := [vL (2), vL (V 2)]) hX 92 (by omega) m92 rfl (c_X7_raw hN hm hr) gX7_gross_X7_raw (n := 0) (hw := rfl) (hrc := rfl) (hrs := rfl) (hd := by decide +kernel) (hR := ⟨Nat.le_of_ble_eq_true rfl, Nat.le_of_ble_eq_true rfl⟩) (hn := rfl) (hst := rfl) (hsum := Nat.le_of_ble_eq_true rfl) (hdg := dX7_gross_10) ?_
  rintro _ S9 ⟨rfl, e9⟩
  rw [e9]
  clear e9 S9
  refine g_at (pc2 := 13) rfl rfl (st2 := [vL (rawV V), vL (2), vL (V 2)]) rfl (S2 := S) rfl ?_
  refine g_aload_n (pc := 13) hX 0 rfl dX7_gross_13 ?_
  refine g_get (pc := 14) hX (ci := 7) (fun _ h => List.mem_cons_of_mem _ (List.mem_append_right _ h)) rfl 92 (by omega) m92 0 (by decide) (List.mem_of_getElem? (i := 1) rfl) rfl (v := .ref (gw_ad w 93)) rfl dX7_gross_14 ?_
  refine g_bipush (pc := 17) hX (by decide) dX7_gross_17 ?_
  refine g_lald (pc := 19) hX 93 (by omega) m93 (by omega) (by omega) (by decide) dX7_gross_19 ?_
  refine g_lsub (pc := 20) hX dX7_gross_20 ?_
  refine g_lmul (pc := 21) hX dX7_gross_21 ?_
  refine g_aload_n (pc := 22) hX 0 rfl dX7_gross_22 ?_
  refine g_get (pc := 23) hX (ci := 7) (fun _ h => List.mem_cons_of_mem _ (List.mem_append_right _ h)) rfl 92 (by omega) m92 0 (by decide) (List.mem_of_getElem? (i := 1) rfl) rfl (v := .ref (gw_ad w 93)) rfl dX7_gross_23 ?_
  refine g_iconst (pc := 26) hX dX7_gross_26 ?_
  refine g_lald (pc := 27) hX 93 (by omega) m93 (by omega) (by omega) (by decide) dX7_gross_27 ?_
  refine g_ladd (pc := 28) hX dX7_gross_28 ?_
  refine g_ldc2 (pc := 29) hX (z := 2) (List.mem_of_getElem? (i := 2) rfl) (by decide +kernel) dX7_gross_29 ?_
  refine g_aload_n (pc := 32) hX 0 rfl dX7_gross_32 ?_
  refine g_get (pc := 33) hX (ci := 7) (fun _ h => List.mem_cons_of_mem _ (List.mem_append_right _ h)) rfl 92 (by omega) m92 0 (by decide) (List.mem_of_getElem? (i := 1) rfl) rfl (v := .ref (gw_ad w 93)) rfl dX7_gross_33 ?_
  refine g_iconst (pc := 36) hX dX7_gross_36 ?_
  refine g_lald (pc := 37) hX 93 (by omega) m93 (by omega) (by omega) (by decide) dX7_gross_37 ?_
  refine g_lmul (pc := 38) hX dX7_gross_38 ?_
  refine g_callT1 (pc := 39) (As := [vL ((2 * ((rawV V) - (V 10))) + (V 2)), vL (2 * (V 2))]) (st2 := [vL (V 2)]) hX (c_X7_div (x := (2 * ((rawV V) - (V 10))) + (V 2)) (y := 2 * (V 2)) (by omega) (by omega)) gX7_gross_X7_div (n := 2) (hw := rfl) (hrc := rfl) (hrs := rfl) (hd := by decide +kernel) (hR := ⟨Nat.le_of_ble_eq_true rfl, Nat.le_of_ble_eq_true rfl⟩) (hn := rfl) (hst := rfl) (hsum := Nat.le_of_ble_eq_true rfl) (hdg := dX7_gross_39) ?_
  rintro _ S9 ⟨rfl, e9⟩
  rw [e9]
  clear e9 S9
  refine g_at (pc2 := 42) rfl rfl (st2 := [vL (((2 * ((rawV V) - (V 10))) + (V 2)) / (2 * (V 2))), vL (V 2)]) rfl (S2 := S) rfl ?_
  refine g_lmul (pc := 42) hX dX7_gross_42 ?_
  refine g_lret (pc := 43) hX hR dX7_gross_43 ?_
  exact ⟨rfl, rfl⟩

set_option maxHeartbeats 4000000 in
set_option maxRecDepth 100000 in
theorem c_X7_isSteady {w : gW} {l : Launch} {S : Nat → va_E} {pm tm xm at_ wm wh : Int} {ir : Bool} {V PV TY TX MK MM CH AM WT WK FL PI : Int → Int} (hN : gw_N w = 105) (hm : modelAt w pm tm xm at_ wm wh ir V PV TY TX MK MM CH AM WT WK FL PI S) (hv : mOK V) :
    GM1 w l yX7_isSteady wsX7_isSteady { frames := 0, cells := 0, slots := 0, locals := 0 } [.ref (gw_ad w 92)] S
      (fun v S' => v = vI (bz (steV V)) ∧ S' = S) := by
  refine GM.start (own := RX7) (n := "isSteady") (d := "()Z") (by decide) rfl (Nat.le_of_ble_eq_true rfl) ?_
  intro X hX hR hXl
  subst hXl
  refine g_at rfl (lv2 := [(0, .ref (gw_ad w 92))]) rfl rfl rfl ?_
  obtain ⟨⟨m92, m93, m94⟩, ⟨m95, m96⟩, ⟨m97, m98, m99, m100, m101⟩, ⟨m102, m103, m104⟩⟩ := (id hm)
  have hr := hv.r
  have hrm := rawV_m hr
  have hrb := rawV_b hr
  obtain ⟨⟨⟨⟨f0a, f0b⟩, ⟨f1a, f1b⟩, ⟨f2a, f2b⟩, ⟨f3a, f3b⟩⟩, ⟨⟨f4a, f4b⟩, ⟨f5a, f5b⟩, ⟨f6a, f6b⟩, ⟨f7a, f7b⟩⟩⟩, ⟨⟨a8a, a8b⟩, ⟨a9a, a9b⟩, ⟨a10a, a10b⟩, ⟨a11a, a11b⟩, ⟨a12a, a12b⟩, ⟨a13a, a13b⟩⟩, ⟨⟨a14a, a14b⟩, ⟨a15a, a15b⟩, ⟨a16a, a16b⟩, ⟨a17a, a17b⟩⟩⟩ := id hv
  refine g_aload_n (pc := 0) hX 0 rfl dX7_isSteady_0 ?_
  refine g_get (pc := 1) hX (ci := 7) (fun _ h => List.mem_cons_of_mem _ (List.mem_append_right _ h)) rfl 92 (by omega) m92 0 (by decide) (List.mem_of_getElem? (i := 1) rfl) rfl (v := .ref (gw_ad w 93)) rfl dX7_isSteady_1 ?_
  refine g_bipush (pc := 4) hX (by decide) dX7_isSteady_4 ?_
  refine g_lald (pc := 6) hX 93 (by omega) m93 (by omega) (by omega) (by decide) dX7_isSteady_6 ?_
  refine g_lstore_n (pc := 7) hX (lv2 := [(1, vL (V 14)), (0, .ref (gw_ad w 92))]) rfl (by decide) rfl dX7_isSteady_7 ?_
  refine g_aload_n (pc := 8) hX 1 rfl dX7_isSteady_8 ?_
  refine g_get (pc := 9) hX (ci := 7) (fun _ h => List.mem_cons_of_mem _ (List.mem_append_right _ h)) rfl 92 (by omega) m92 0 (by decide) (List.mem_of_getElem? (i := 1) rfl) rfl (v := .ref (gw_ad w 93)) rfl dX7_isSteady_9 ?_
  refine g_bipush (pc := 12) hX (by decide) dX7_isSteady_12 ?_
  refine g_lald (pc := 14) hX 93 (by omega) m93 (by omega) (by omega) (by decide) dX7_isSteady_14 ?_
  refine g_lstore_n (pc := 15) hX (lv2 := [(3, vL (V 14)), (1, vL (V 14)), (0, .ref (gw_ad w 92))]) rfl (by decide) rfl dX7_isSteady_15 ?_
  refine g_iconst (pc := 16) hX dX7_isSteady_16 ?_
  refine g_istore (pc := 17) hX (lv2 := [(5, vI (1)), (3, vL (V 14)), (1, vL (V 14)), (0, .ref (gw_ad w 92))]) (by decide) rfl dX7_isSteady_17 ?_
  have loop : ∀ (n0 : Nat) (c : Int), 1 ≤ c → c ≤ 3 → 3 - c < n0 → G w { frames := 0, cells := 0, slots := 0, locals := 0 } X 6 19 [(5, vI (c)), (0, .ref (gw_ad w 92)), (1, vL (msN V (c - 1 : Int).toNat)), (3, vL (mnN V (c - 1 : Int).toNat))] [] S := by
    intro n0
    induction n0 with
    | zero => intro c  h1c h2c h3c; exact absurd h3c (by omega)
    | succ n0 ihloop =>
      intro c  h1c h2c h3c 
      have hc : inI c := inI_mk (by omega) (by omega)
      have hvj : ∀ j, 14 ≤ j → j ≤ 16 → -2200000 ≤ V j ∧ V j ≤ 2200000 := fun j h0 h1 => by rcases (show j = 14 ∨ j = 15 ∨ j = 16 by omega) with h | h | h <;> rw [h] <;> omega
      have hmb := msN_b hvj (c - 1).toNat (by omega)
      refine g_iload (pc := 19) hX 0 rfl dX7_isSteady_19 ?_
      refine g_iconst (pc := 21) hX dX7_isSteady_21 ?_
      refine g_icmp_ge (pc := 22) (tgt := 91) hX (by first | assumption | exact inI_mk (by omega) (by omega)) (by first | assumption | exact inI_mk (by omega) (by omega)) dX7_isSteady_22 (by decide) (fun c_22 => ?_) (fun c_22 => ?_)
      · skip
        refine g_aload_n (pc := 91) hX 1 rfl dX7_isSteady_91 ?_
        refine g_get (pc := 92) hX (ci := 7) (fun _ h => List.mem_cons_of_mem _ (List.mem_append_right _ h)) rfl 92 (by omega) m92 0 (by decide) (List.mem_of_getElem? (i := 1) rfl) rfl (v := .ref (gw_ad w 93)) rfl dX7_isSteady_92 ?_
        refine g_bipush (pc := 95) hX (by decide) dX7_isSteady_95 ?_
        refine g_lald (pc := 97) hX 93 (by omega) m93 (by omega) (by omega) (by decide) dX7_isSteady_97 ?_
        refine g_ldc2 (pc := 98) hX (z := 3) (List.mem_of_getElem? (i := 2) rfl) (by decide +kernel) dX7_isSteady_98 ?_
        refine g_lcmp_lt (pc := 101) (tgt := 122) hX (by first | assumption | exact inI_L (by assumption) | exact inL_mk (by omega) (by omega)) (by first | assumption | exact inI_L (by assumption) | exact inL_mk (by omega) (by omega)) dX7_isSteady_101 dX7_isSteady_102 (by decide) (fun c_101 => ?_) (fun c_101 => ?_)
        · skip
          refine g_iconst (pc := 122) hX dX7_isSteady_122 ?_
          refine g_at rfl rfl (st2 := [vI (bz false)]) rfl rfl ?_
          refine g_zret (pc := 123) hX hR dX7_isSteady_123 ?_
          have hc3 : c = 3 := by omega
          subst hc3
          have e1 : msN V (3 - 1 : Int).toNat = mx2 (V 16) (mx2 (V 15) (V 14)) := rfl
          have e2 : mnN V (3 - 1 : Int).toNat = mn2 (V 16) (mn2 (V 15) (V 14)) := rfl
          exact ⟨vB_f (df (by rw [← e1, ← e2]; omega)), rfl⟩
        · skip
          refine g_lload_n (pc := 105) hX 2 rfl dX7_isSteady_105 ?_
          refine g_lload_n (pc := 106) hX 3 rfl dX7_isSteady_106 ?_
          refine g_lsub (pc := 107) hX dX7_isSteady_107 ?_
          refine g_aload_n (pc := 108) hX 1 rfl dX7_isSteady_108 ?_
          refine g_get (pc := 109) hX (ci := 7) (fun _ h => List.mem_cons_of_mem _ (List.mem_append_right _ h)) rfl 92 (by omega) m92 0 (by decide) (List.mem_of_getElem? (i := 1) rfl) rfl (v := .ref (gw_ad w 93)) rfl dX7_isSteady_109 ?_
          refine g_iconst (pc := 112) hX dX7_isSteady_112 ?_
          refine g_lald (pc := 113) hX 93 (by omega) m93 (by omega) (by omega) (by decide) dX7_isSteady_113 ?_
          refine g_lcmp_gt (pc := 114) (tgt := 122) hX (by first | assumption | exact inI_L (by assumption) | exact inL_mk (by omega) (by omega)) (by first | assumption | exact inI_L (by assumption) | exact inL_mk (by omega) (by omega)) dX7_isSteady_114 dX7_isSteady_115 (by decide) (fun c_114 => ?_) (fun c_114 => ?_)
          · skip
            refine g_iconst (pc := 122) hX dX7_isSteady_122 ?_
            refine g_at rfl rfl (st2 := [vI (bz false)]) rfl rfl ?_
            refine g_zret (pc := 123) hX hR dX7_isSteady_123 ?_
            have hc3 : c = 3 := by omega
            subst hc3
            have e1 : msN V (3 - 1 : Int).toNat = mx2 (V 16) (mx2 (V 15) (V 14)) := rfl
            have e2 : mnN V (3 - 1 : Int).toNat = mn2 (V 16) (mn2 (V 15) (V 14)) := rfl
            exact ⟨vB_f (df (by rw [← e1, ← e2]; omega)), rfl⟩
          · skip
            refine g_iconst (pc := 118) hX dX7_isSteady_118 ?_
            refine g_goto (pc := 119) (tgt := 123) hX dX7_isSteady_119 (by decide) ?_
            refine g_at rfl rfl (st2 := [vI (bz true)]) rfl rfl ?_
            refine g_zret (pc := 123) hX hR dX7_isSteady_123 ?_
            have hc3 : c = 3 := by omega
            subst hc3
            have e1 : msN V (3 - 1 : Int).toNat = mx2 (V 16) (mx2 (V 15) (V 14)) := rfl
            have e2 : mnN V (3 - 1 : Int).toNat = mn2 (V 16) (mn2 (V 15) (V 14)) := rfl
            exact ⟨vB_t (dt (by rw [← e1, ← e2]; omega)), rfl⟩
      · skip
        have hvc2 := hvj (14 + c) (by omega) (by omega)
        refine g_aload_n (pc := 25) hX 1 rfl dX7_isSteady_25 ?_
        refine g_get (pc := 26) hX (ci := 7) (fun _ h => List.mem_cons_of_mem _ (List.mem_append_right _ h)) rfl 92 (by omega) m92 0 (by decide) (List.mem_of_getElem? (i := 1) rfl) rfl (v := .ref (gw_ad w 93)) rfl dX7_isSteady_26 ?_
        refine g_bipush (pc := 29) hX (by decide) dX7_isSteady_29 ?_
        refine g_iload (pc := 31) hX 0 rfl dX7_isSteady_31 ?_
        refine g_iadd (pc := 33) hX dX7_isSteady_33 ?_
        refine g_lald (pc := 34) hX 93 (by omega) m93 (by omega) (by omega) (by decide) dX7_isSteady_34 ?_
        refine g_lload_n (pc := 35) hX 2 rfl dX7_isSteady_35 ?_
        refine g_lcmp_le (pc := 36) (tgt := 53) hX (by first | assumption | exact inI_L (by assumption) | exact inL_mk (by omega) (by omega)) (by first | assumption | exact inI_L (by assumption) | exact inL_mk (by omega) (by omega)) dX7_isSteady_36 dX7_isSteady_37 (by decide) (fun c_36 => ?_) (fun c_36 => ?_)
        · skip
          refine g_lload_n (pc := 53) hX 2 rfl dX7_isSteady_53 ?_
          refine g_lstore_n (pc := 54) hX (lv2 := [(1, vL (msN V (c - 1 : Int).toNat)), (5, vI (c)), (0, .ref (gw_ad w 92)), (3, vL (mnN V (c - 1 : Int).toNat))]) rfl (by decide) rfl dX7_isSteady_54 ?_
          refine g_aload_n (pc := 55) hX 2 rfl dX7_isSteady_55 ?_
          refine g_get (pc := 56) hX (ci := 7) (fun _ h => List.mem_cons_of_mem _ (List.mem_append_right _ h)) rfl 92 (by omega) m92 0 (by decide) (List.mem_of_getElem? (i := 1) rfl) rfl (v := .ref (gw_ad w 93)) rfl dX7_isSteady_56 ?_
          refine g_bipush (pc := 59) hX (by decide) dX7_isSteady_59 ?_
          refine g_iload (pc := 61) hX 1 rfl dX7_isSteady_61 ?_
          refine g_iadd (pc := 63) hX dX7_isSteady_63 ?_
          refine g_lald (pc := 64) hX 93 (by omega) m93 (by omega) (by omega) (by decide) dX7_isSteady_64 ?_
          refine g_lload_n (pc := 65) hX 3 rfl dX7_isSteady_65 ?_
          refine g_lcmp_ge (pc := 66) (tgt := 83) hX (by first | assumption | exact inI_L (by assumption) | exact inL_mk (by omega) (by omega)) (by first | assumption | exact inI_L (by assumption) | exact inL_mk (by omega) (by omega)) dX7_isSteady_66 dX7_isSteady_67 (by decide) (fun c_66 => ?_) (fun c_66 => ?_)
          · skip
            refine g_lload_n (pc := 83) hX 3 rfl dX7_isSteady_83 ?_
            refine g_lstore_n (pc := 84) hX (lv2 := [(3, vL (mnN V (c - 1 : Int).toNat)), (1, vL (msN V (c - 1 : Int).toNat)), (5, vI (c)), (0, .ref (gw_ad w 92))]) rfl (by decide) rfl dX7_isSteady_84 ?_
            refine g_iinc (pc := 85) hX (lv2 := [(5, vI (c + 1)), (3, vL (mnN V (c - 1 : Int).toNat)), (1, vL (msN V (c - 1 : Int).toNat)), (0, .ref (gw_ad w 92))]) 2 rfl (by decide) rfl dX7_isSteady_85 ?_
            refine g_goto (pc := 88) (tgt := 19) hX dX7_isSteady_88 (by decide) ?_
            refine g_sub (lv2 := [(5, vI (c + 1)), (0, .ref (gw_ad w 92)), (1, vL (msN V (c - 1 : Int).toNat)), (3, vL (mnN V (c - 1 : Int).toNat))]) [0, 3, 2, 1] rfl ?_
            refine g_at rfl (lv2 := [(5, vI (c + 1)), (0, .ref (gw_ad w 92)), (1, vL (msN V (c + 1 - 1 : Int).toNat)), (3, vL (mnN V (c + 1 - 1 : Int).toNat))]) (by rw [msN_s V h1c, mnN_s V h1c]; unfold mx2 mn2; rw [if_neg (by omega), if_neg (by omega)]) rfl (S2 := S) (rfl) ?_
            exact ihloop (c + 1)  (by omega) (by omega) (by omega) 
          · skip
            refine g_aload_n (pc := 70) hX 2 rfl dX7_isSteady_70 ?_
            refine g_get (pc := 71) hX (ci := 7) (fun _ h => List.mem_cons_of_mem _ (List.mem_append_right _ h)) rfl 92 (by omega) m92 0 (by decide) (List.mem_of_getElem? (i := 1) rfl) rfl (v := .ref (gw_ad w 93)) rfl dX7_isSteady_71 ?_
            refine g_bipush (pc := 74) hX (by decide) dX7_isSteady_74 ?_
            refine g_iload (pc := 76) hX 1 rfl dX7_isSteady_76 ?_
            refine g_iadd (pc := 78) hX dX7_isSteady_78 ?_
            refine g_lald (pc := 79) hX 93 (by omega) m93 (by omega) (by omega) (by decide) dX7_isSteady_79 ?_
            refine g_goto (pc := 80) (tgt := 84) hX dX7_isSteady_80 (by decide) ?_
            refine g_lstore_n (pc := 84) hX (lv2 := [(3, vL (V (14 + c))), (1, vL (msN V (c - 1 : Int).toNat)), (5, vI (c)), (0, .ref (gw_ad w 92))]) rfl (by decide) rfl dX7_isSteady_84 ?_
            refine g_iinc (pc := 85) hX (lv2 := [(5, vI (c + 1)), (3, vL (V (14 + c))), (1, vL (msN V (c - 1 : Int).toNat)), (0, .ref (gw_ad w 92))]) 2 rfl (by decide) rfl dX7_isSteady_85 ?_
            refine g_goto (pc := 88) (tgt := 19) hX dX7_isSteady_88 (by decide) ?_
            refine g_sub (lv2 := [(5, vI (c + 1)), (0, .ref (gw_ad w 92)), (1, vL (msN V (c - 1 : Int).toNat)), (3, vL (V (14 + c)))]) [0, 3, 2, 1] rfl ?_
            refine g_at rfl (lv2 := [(5, vI (c + 1)), (0, .ref (gw_ad w 92)), (1, vL (msN V (c + 1 - 1 : Int).toNat)), (3, vL (mnN V (c + 1 - 1 : Int).toNat))]) (by rw [msN_s V h1c, mnN_s V h1c]; unfold mx2 mn2; rw [if_neg (by omega), if_pos (by omega)]) rfl (S2 := S) (rfl) ?_
            exact ihloop (c + 1)  (by omega) (by omega) (by omega) 
        · skip
          refine g_aload_n (pc := 40) hX 1 rfl dX7_isSteady_40 ?_
          refine g_get (pc := 41) hX (ci := 7) (fun _ h => List.mem_cons_of_mem _ (List.mem_append_right _ h)) rfl 92 (by omega) m92 0 (by decide) (List.mem_of_getElem? (i := 1) rfl) rfl (v := .ref (gw_ad w 93)) rfl dX7_isSteady_41 ?_
          refine g_bipush (pc := 44) hX (by decide) dX7_isSteady_44 ?_
          refine g_iload (pc := 46) hX 0 rfl dX7_isSteady_46 ?_
          refine g_iadd (pc := 48) hX dX7_isSteady_48 ?_
          refine g_lald (pc := 49) hX 93 (by omega) m93 (by omega) (by omega) (by decide) dX7_isSteady_49 ?_
          refine g_goto (pc := 50) (tgt := 54) hX dX7_isSteady_50 (by decide) ?_
          refine g_lstore_n (pc := 54) hX (lv2 := [(1, vL (V (14 + c))), (5, vI (c)), (0, .ref (gw_ad w 92)), (3, vL (mnN V (c - 1 : Int).toNat))]) rfl (by decide) rfl dX7_isSteady_54 ?_
          refine g_aload_n (pc := 55) hX 2 rfl dX7_isSteady_55 ?_
          refine g_get (pc := 56) hX (ci := 7) (fun _ h => List.mem_cons_of_mem _ (List.mem_append_right _ h)) rfl 92 (by omega) m92 0 (by decide) (List.mem_of_getElem? (i := 1) rfl) rfl (v := .ref (gw_ad w 93)) rfl dX7_isSteady_56 ?_
          refine g_bipush (pc := 59) hX (by decide) dX7_isSteady_59 ?_
          refine g_iload (pc := 61) hX 1 rfl dX7_isSteady_61 ?_
          refine g_iadd (pc := 63) hX dX7_isSteady_63 ?_
          refine g_lald (pc := 64) hX 93 (by omega) m93 (by omega) (by omega) (by decide) dX7_isSteady_64 ?_
          refine g_lload_n (pc := 65) hX 3 rfl dX7_isSteady_65 ?_
          refine g_lcmp_ge (pc := 66) (tgt := 83) hX (by first | assumption | exact inI_L (by assumption) | exact inL_mk (by omega) (by omega)) (by first | assumption | exact inI_L (by assumption) | exact inL_mk (by omega) (by omega)) dX7_isSteady_66 dX7_isSteady_67 (by decide) (fun c_66 => ?_) (fun c_66 => ?_)
          · skip
            refine g_lload_n (pc := 83) hX 3 rfl dX7_isSteady_83 ?_
            refine g_lstore_n (pc := 84) hX (lv2 := [(3, vL (mnN V (c - 1 : Int).toNat)), (1, vL (V (14 + c))), (5, vI (c)), (0, .ref (gw_ad w 92))]) rfl (by decide) rfl dX7_isSteady_84 ?_
            refine g_iinc (pc := 85) hX (lv2 := [(5, vI (c + 1)), (3, vL (mnN V (c - 1 : Int).toNat)), (1, vL (V (14 + c))), (0, .ref (gw_ad w 92))]) 2 rfl (by decide) rfl dX7_isSteady_85 ?_
            refine g_goto (pc := 88) (tgt := 19) hX dX7_isSteady_88 (by decide) ?_
            refine g_sub (lv2 := [(5, vI (c + 1)), (0, .ref (gw_ad w 92)), (1, vL (V (14 + c))), (3, vL (mnN V (c - 1 : Int).toNat))]) [0, 3, 2, 1] rfl ?_
            refine g_at rfl (lv2 := [(5, vI (c + 1)), (0, .ref (gw_ad w 92)), (1, vL (msN V (c + 1 - 1 : Int).toNat)), (3, vL (mnN V (c + 1 - 1 : Int).toNat))]) (by rw [msN_s V h1c, mnN_s V h1c]; unfold mx2 mn2; rw [if_pos (by omega), if_neg (by omega)]) rfl (S2 := S) (rfl) ?_
            exact ihloop (c + 1)  (by omega) (by omega) (by omega) 
          · skip
            refine g_aload_n (pc := 70) hX 2 rfl dX7_isSteady_70 ?_
            refine g_get (pc := 71) hX (ci := 7) (fun _ h => List.mem_cons_of_mem _ (List.mem_append_right _ h)) rfl 92 (by omega) m92 0 (by decide) (List.mem_of_getElem? (i := 1) rfl) rfl (v := .ref (gw_ad w 93)) rfl dX7_isSteady_71 ?_
            refine g_bipush (pc := 74) hX (by decide) dX7_isSteady_74 ?_
            refine g_iload (pc := 76) hX 1 rfl dX7_isSteady_76 ?_
            refine g_iadd (pc := 78) hX dX7_isSteady_78 ?_
            refine g_lald (pc := 79) hX 93 (by omega) m93 (by omega) (by omega) (by decide) dX7_isSteady_79 ?_
            refine g_goto (pc := 80) (tgt := 84) hX dX7_isSteady_80 (by decide) ?_
            refine g_lstore_n (pc := 84) hX (lv2 := [(3, vL (V (14 + c))), (1, vL (V (14 + c))), (5, vI (c)), (0, .ref (gw_ad w 92))]) rfl (by decide) rfl dX7_isSteady_84 ?_
            refine g_iinc (pc := 85) hX (lv2 := [(5, vI (c + 1)), (3, vL (V (14 + c))), (1, vL (V (14 + c))), (0, .ref (gw_ad w 92))]) 2 rfl (by decide) rfl dX7_isSteady_85 ?_
            refine g_goto (pc := 88) (tgt := 19) hX dX7_isSteady_88 (by decide) ?_
            refine g_sub (lv2 := [(5, vI (c + 1)), (0, .ref (gw_ad w 92)), (1, vL (V (14 + c))), (3, vL (V (14 + c)))]) [0, 3, 2, 1] rfl ?_
            refine g_at rfl (lv2 := [(5, vI (c + 1)), (0, .ref (gw_ad w 92)), (1, vL (msN V (c + 1 - 1 : Int).toNat)), (3, vL (mnN V (c + 1 - 1 : Int).toNat))]) (by rw [msN_s V h1c, mnN_s V h1c]; unfold mx2 mn2; rw [if_pos (by omega), if_pos (by omega)]) rfl (S2 := S) (rfl) ?_
            exact ihloop (c + 1)  (by omega) (by omega) (by omega) 
  refine g_sub (lv2 := [(5, vI (1)), (0, .ref (gw_ad w 92)), (1, vL (V 14)), (3, vL (V 14))]) [0, 3, 2, 1] rfl ?_
  refine g_at rfl (lv2 := [(5, vI (1)), (0, .ref (gw_ad w 92)), (1, vL (msN V (1 - 1 : Int).toNat)), (3, vL (mnN V (1 - 1 : Int).toNat))]) (rfl) rfl (S2 := S) (rfl) ?_
  exact loop ((3 : Int) - 1 + 1).toNat 1  (by omega) (by omega) (by omega) 

set_option maxHeartbeats 4000000 in
set_option maxRecDepth 100000 in
theorem c_X7_scaleOf {w : gW} {l : Launch} {S : Nat → va_E} {pm tm xm at_ wm wh : Int} {ir : Bool} {V PV TY TX MK MM CH AM WT WK FL PI : Int → Int} (hN : gw_N w = 105) (hm : modelAt w pm tm xm at_ wm wh ir V PV TY TX MK MM CH AM WT WK FL PI S) (hv : mOK V) {i : Int} (h0 : 0 ≤ i) (h10 : i ≤ 10) :
    GM1 w l yX7_scaleOf wsX7_scaleOf { frames := 3, cells := 0, slots := 0, locals := 65 } [.ref (gw_ad w 92), vI (i)] S
      (fun v S' => v = vL (scnV V i) ∧ S' = S) := by
  refine GM.start (own := RX7) (n := "scaleOf") (d := "(I)J") (by decide) rfl (Nat.le_of_ble_eq_true rfl) ?_
  intro X hX hR hXl
  subst hXl
  refine g_at rfl (lv2 := [(0, .ref (gw_ad w 92)), (1, vI (i))]) rfl rfl rfl ?_
  obtain ⟨⟨m92, m93, m94⟩, ⟨m95, m96⟩, ⟨m97, m98, m99, m100, m101⟩, ⟨m102, m103, m104⟩⟩ := (id hm)
  have hr := hv.r
  have hrm := rawV_m hr
  have hrb := rawV_b hr
  obtain ⟨⟨⟨⟨f0a, f0b⟩, ⟨f1a, f1b⟩, ⟨f2a, f2b⟩, ⟨f3a, f3b⟩⟩, ⟨⟨f4a, f4b⟩, ⟨f5a, f5b⟩, ⟨f6a, f6b⟩, ⟨f7a, f7b⟩⟩⟩, ⟨⟨a8a, a8b⟩, ⟨a9a, a9b⟩, ⟨a10a, a10b⟩, ⟨a11a, a11b⟩, ⟨a12a, a12b⟩, ⟨a13a, a13b⟩⟩, ⟨⟨a14a, a14b⟩, ⟨a15a, a15b⟩, ⟨a16a, a16b⟩, ⟨a17a, a17b⟩⟩⟩ := id hv
  refine g_iload_n (pc := 0) hX 1 rfl dX7_scaleOf_0 ?_
  rcases (show i = 0 ∨ i = 1 ∨ i = 2 ∨ i = 3 ∨ i = 4 ∨ i = 5 ∨ i = 6 ∨ i = 7 ∨ i = 8 ∨ i = 9 ∨ 9 < i by omega) with hs | hs | hs | hs | hs | hs | hs | hs | hs | hs | hs
  · skip
    refine g_tin (pc := 1) (tgt := 56) (n := 0) hX hs (by decide) (by decide) (by decide) rfl dX7_scaleOf_1 (by decide) ?_
    refine g_aload_n (pc := 56) hX 0 rfl dX7_scaleOf_56 ?_
    refine g_get (pc := 57) hX (ci := 7) (fun _ h => List.mem_cons_of_mem _ (List.mem_append_right _ h)) rfl 92 (by omega) m92 0 (by decide) (List.mem_of_getElem? (i := 1) rfl) rfl (v := .ref (gw_ad w 93)) rfl dX7_scaleOf_57 ?_
    refine g_bipush (pc := 60) hX (by decide) dX7_scaleOf_60 ?_
    refine g_lald (pc := 62) hX 93 (by omega) m93 (by omega) (by omega) (by decide) dX7_scaleOf_62 ?_
    refine g_lret (pc := 63) hX hR dX7_scaleOf_63 ?_
    refine ⟨vL_c ?_, rfl⟩
    unfold scnV
    rw [hs]
    rfl
  · skip
    refine g_tin (pc := 1) (tgt := 64) (n := 1) hX hs (by decide) (by decide) (by decide) rfl dX7_scaleOf_1 (by decide) ?_
    refine g_aload_n (pc := 64) hX 0 rfl dX7_scaleOf_64 ?_
    refine g_callV1 (pc := 65) (ci := 7) (As := []) (st2 := []) hX 92 (by omega) m92 rfl (c_X7_raw hN hm hr) gX7_scaleOf_X7_raw (n := 0) (hw := rfl) (hrc := rfl) (hrs := rfl) (hd := by decide +kernel) (hR := ⟨Nat.le_of_ble_eq_true rfl, Nat.le_of_ble_eq_true rfl⟩) (hn := rfl) (hst := rfl) (hsum := Nat.le_of_ble_eq_true rfl) (hdg := dX7_scaleOf_65) ?_
    rintro _ S9 ⟨rfl, e9⟩
    rw [e9]
    clear e9 S9
    refine g_at (pc2 := 68) rfl rfl (st2 := [vL (rawV V)]) rfl (S2 := S) rfl ?_
    refine g_lret (pc := 68) hX hR dX7_scaleOf_68 ?_
    refine ⟨vL_c ?_, rfl⟩
    unfold scnV
    rw [hs]
    rfl
  · skip
    refine g_tin (pc := 1) (tgt := 69) (n := 2) hX hs (by decide) (by decide) (by decide) rfl dX7_scaleOf_1 (by decide) ?_
    refine g_aload_n (pc := 69) hX 0 rfl dX7_scaleOf_69 ?_
    refine g_callV1 (pc := 70) (ci := 7) (As := []) (st2 := []) hX 92 (by omega) m92 rfl (c_X7_gross hN hm hv) gX7_scaleOf_X7_gross (n := 0) (hw := rfl) (hrc := rfl) (hrs := rfl) (hd := by decide +kernel) (hR := ⟨Nat.le_of_ble_eq_true rfl, Nat.le_of_ble_eq_true rfl⟩) (hn := rfl) (hst := rfl) (hsum := Nat.le_of_ble_eq_true rfl) (hdg := dX7_scaleOf_70) ?_
    rintro _ S9 ⟨rfl, e9⟩
    rw [e9]
    clear e9 S9
    refine g_at (pc2 := 73) rfl rfl (st2 := [vL (groV V)]) rfl (S2 := S) rfl ?_
    refine g_lret (pc := 73) hX hR dX7_scaleOf_73 ?_
    refine ⟨vL_c ?_, rfl⟩
    unfold scnV
    rw [hs]
    rfl
  · skip
    refine g_tin (pc := 1) (tgt := 74) (n := 3) hX hs (by decide) (by decide) (by decide) rfl dX7_scaleOf_1 (by decide) ?_
    refine g_aload_n (pc := 74) hX 0 rfl dX7_scaleOf_74 ?_
    refine g_callV1 (pc := 75) (ci := 7) (As := []) (st2 := []) hX 92 (by omega) m92 rfl (c_X7_gross hN hm hv) gX7_scaleOf_X7_gross (n := 0) (hw := rfl) (hrc := rfl) (hrs := rfl) (hd := by decide +kernel) (hR := ⟨Nat.le_of_ble_eq_true rfl, Nat.le_of_ble_eq_true rfl⟩) (hn := rfl) (hst := rfl) (hsum := Nat.le_of_ble_eq_true rfl) (hdg := dX7_scaleOf_75) ?_
    rintro _ S9 ⟨rfl, e9⟩
    rw [e9]
    clear e9 S9
    refine g_at (pc2 := 78) rfl rfl (st2 := [vL (groV V)]) rfl (S2 := S) rfl ?_
    refine g_aload_n (pc := 78) hX 0 rfl dX7_scaleOf_78 ?_
    refine g_get (pc := 79) hX (ci := 7) (fun _ h => List.mem_cons_of_mem _ (List.mem_append_right _ h)) rfl 92 (by omega) m92 0 (by decide) (List.mem_of_getElem? (i := 1) rfl) rfl (v := .ref (gw_ad w 93)) rfl dX7_scaleOf_79 ?_
    refine g_bipush (pc := 82) hX (by decide) dX7_scaleOf_82 ?_
    refine g_lald (pc := 84) hX 93 (by omega) m93 (by omega) (by omega) (by decide) dX7_scaleOf_84 ?_
    refine g_lsub (pc := 85) hX dX7_scaleOf_85 ?_
    refine g_lret (pc := 86) hX hR dX7_scaleOf_86 ?_
    refine ⟨vL_c ?_, rfl⟩
    unfold scnV
    rw [hs]
    rfl
  · skip
    refine g_tin (pc := 1) (tgt := 87) (n := 4) hX hs (by decide) (by decide) (by decide) rfl dX7_scaleOf_1 (by decide) ?_
    refine g_aload_n (pc := 87) hX 0 rfl dX7_scaleOf_87 ?_
    refine g_get (pc := 88) hX (ci := 7) (fun _ h => List.mem_cons_of_mem _ (List.mem_append_right _ h)) rfl 92 (by omega) m92 0 (by decide) (List.mem_of_getElem? (i := 1) rfl) rfl (v := .ref (gw_ad w 93)) rfl dX7_scaleOf_88 ?_
    refine g_bipush (pc := 91) hX (by decide) dX7_scaleOf_91 ?_
    refine g_lald (pc := 93) hX 93 (by omega) m93 (by omega) (by omega) (by decide) dX7_scaleOf_93 ?_
    refine g_lret (pc := 94) hX hR dX7_scaleOf_94 ?_
    refine ⟨vL_c ?_, rfl⟩
    unfold scnV
    rw [hs]
    rfl
  · skip
    refine g_tin (pc := 1) (tgt := 95) (n := 5) hX hs (by decide) (by decide) (by decide) rfl dX7_scaleOf_1 (by decide) ?_
    refine g_aload_n (pc := 95) hX 0 rfl dX7_scaleOf_95 ?_
    refine g_get (pc := 96) hX (ci := 7) (fun _ h => List.mem_cons_of_mem _ (List.mem_append_right _ h)) rfl 92 (by omega) m92 0 (by decide) (List.mem_of_getElem? (i := 1) rfl) rfl (v := .ref (gw_ad w 93)) rfl dX7_scaleOf_96 ?_
    refine g_bipush (pc := 99) hX (by decide) dX7_scaleOf_99 ?_
    refine g_lald (pc := 101) hX 93 (by omega) m93 (by omega) (by omega) (by decide) dX7_scaleOf_101 ?_
    refine g_lret (pc := 102) hX hR dX7_scaleOf_102 ?_
    refine ⟨vL_c ?_, rfl⟩
    unfold scnV
    rw [hs]
    rfl
  · skip
    refine g_tin (pc := 1) (tgt := 103) (n := 6) hX hs (by decide) (by decide) (by decide) rfl dX7_scaleOf_1 (by decide) ?_
    refine g_aload_n (pc := 103) hX 0 rfl dX7_scaleOf_103 ?_
    refine g_get (pc := 104) hX (ci := 7) (fun _ h => List.mem_cons_of_mem _ (List.mem_append_right _ h)) rfl 92 (by omega) m92 0 (by decide) (List.mem_of_getElem? (i := 1) rfl) rfl (v := .ref (gw_ad w 93)) rfl dX7_scaleOf_104 ?_
    refine g_bipush (pc := 107) hX (by decide) dX7_scaleOf_107 ?_
    refine g_lald (pc := 109) hX 93 (by omega) m93 (by omega) (by omega) (by decide) dX7_scaleOf_109 ?_
    refine g_lret (pc := 110) hX hR dX7_scaleOf_110 ?_
    refine ⟨vL_c ?_, rfl⟩
    unfold scnV
    rw [hs]
    rfl
  · skip
    refine g_tin (pc := 1) (tgt := 111) (n := 7) hX hs (by decide) (by decide) (by decide) rfl dX7_scaleOf_1 (by decide) ?_
    refine g_aload_n (pc := 111) hX 0 rfl dX7_scaleOf_111 ?_
    refine g_callV1 (pc := 112) (ci := 7) (As := []) (st2 := []) hX 92 (by omega) m92 rfl (c_X7_isSteady hN hm hv) gX7_scaleOf_X7_isSteady (n := 0) (hw := rfl) (hrc := rfl) (hrs := rfl) (hd := by decide +kernel) (hR := ⟨Nat.le_of_ble_eq_true rfl, Nat.le_of_ble_eq_true rfl⟩) (hn := rfl) (hst := rfl) (hsum := Nat.le_of_ble_eq_true rfl) (hdg := dX7_scaleOf_112) ?_
    rintro _ S9 ⟨rfl, e9⟩
    rw [e9]
    clear e9 S9
    refine g_at (pc2 := 115) rfl rfl (st2 := [vI (bz (steV V))]) rfl (S2 := S) rfl ?_
    refine g_bif_eq (pc := 115) (tgt := 122) hX dX7_scaleOf_115 (by decide) (fun c_115 => ?_) (fun c_115 => ?_)
    · skip
      refine g_lconst (pc := 122) hX (z := 0) rfl dX7_scaleOf_122 ?_
      refine g_lret (pc := 123) hX hR dX7_scaleOf_123 ?_
      refine ⟨vL_c ?_, rfl⟩
      unfold scnV
      rw [hs]
      first | (show _ = bz (steV V); rw [c_115]; rfl) | (show _ = bz (ovrV V); rw [c_128]; rfl)
    · skip
      refine g_lconst (pc := 118) hX (z := 1) rfl dX7_scaleOf_118 ?_
      refine g_goto (pc := 119) (tgt := 123) hX dX7_scaleOf_119 (by decide) ?_
      refine g_lret (pc := 123) hX hR dX7_scaleOf_123 ?_
      refine ⟨vL_c ?_, rfl⟩
      unfold scnV
      rw [hs]
      first | (show _ = bz (steV V); rw [c_115]; rfl) | (show _ = bz (ovrV V); rw [c_128]; rfl)
  · skip
    refine g_tin (pc := 1) (tgt := 124) (n := 8) hX hs (by decide) (by decide) (by decide) rfl dX7_scaleOf_1 (by decide) ?_
    refine g_aload_n (pc := 124) hX 0 rfl dX7_scaleOf_124 ?_
    refine g_callV1 (pc := 125) (ci := 7) (As := []) (st2 := []) hX 92 (by omega) m92 rfl (c_X7_isOver hN hm hv) gX7_scaleOf_X7_isOver (n := 0) (hw := rfl) (hrc := rfl) (hrs := rfl) (hd := by decide +kernel) (hR := ⟨Nat.le_of_ble_eq_true rfl, Nat.le_of_ble_eq_true rfl⟩) (hn := rfl) (hst := rfl) (hsum := Nat.le_of_ble_eq_true rfl) (hdg := dX7_scaleOf_125) ?_
    rintro _ S9 ⟨rfl, e9⟩
    rw [e9]
    clear e9 S9
    refine g_at (pc2 := 128) rfl rfl (st2 := [vI (bz (ovrV V))]) rfl (S2 := S) rfl ?_
    refine g_bif_eq (pc := 128) (tgt := 135) hX dX7_scaleOf_128 (by decide) (fun c_128 => ?_) (fun c_128 => ?_)
    · skip
      refine g_lconst (pc := 135) hX (z := 0) rfl dX7_scaleOf_135 ?_
      refine g_lret (pc := 136) hX hR dX7_scaleOf_136 ?_
      refine ⟨vL_c ?_, rfl⟩
      unfold scnV
      rw [hs]
      first | (show _ = bz (steV V); rw [c_115]; rfl) | (show _ = bz (ovrV V); rw [c_128]; rfl)
    · skip
      refine g_lconst (pc := 131) hX (z := 1) rfl dX7_scaleOf_131 ?_
      refine g_goto (pc := 132) (tgt := 136) hX dX7_scaleOf_132 (by decide) ?_
      refine g_lret (pc := 136) hX hR dX7_scaleOf_136 ?_
      refine ⟨vL_c ?_, rfl⟩
      unfold scnV
      rw [hs]
      first | (show _ = bz (steV V); rw [c_115]; rfl) | (show _ = bz (ovrV V); rw [c_128]; rfl)
  · skip
    refine g_tin (pc := 1) (tgt := 137) (n := 9) hX hs (by decide) (by decide) (by decide) rfl dX7_scaleOf_1 (by decide) ?_
    refine g_aload_n (pc := 137) hX 0 rfl dX7_scaleOf_137 ?_
    refine g_get (pc := 138) hX (ci := 7) (fun _ h => List.mem_cons_of_mem _ (List.mem_append_right _ h)) rfl 92 (by omega) m92 0 (by decide) (List.mem_of_getElem? (i := 1) rfl) rfl (v := .ref (gw_ad w 93)) rfl dX7_scaleOf_138 ?_
    refine g_bipush (pc := 141) hX (by decide) dX7_scaleOf_141 ?_
    refine g_lald (pc := 143) hX 93 (by omega) m93 (by omega) (by omega) (by decide) dX7_scaleOf_143 ?_
    refine g_lret (pc := 144) hX hR dX7_scaleOf_144 ?_
    refine ⟨vL_c ?_, rfl⟩
    unfold scnV
    rw [hs]
    rfl
  · skip
    refine g_tout (pc := 1) (tgt := 145) hX (by first | assumption | exact inI_mk (by omega) (by omega)) (by omega) dX7_scaleOf_1 (by decide) ?_
    refine g_aload_n (pc := 145) hX 0 rfl dX7_scaleOf_145 ?_
    refine g_get (pc := 146) hX (ci := 7) (fun _ h => List.mem_cons_of_mem _ (List.mem_append_right _ h)) rfl 92 (by omega) m92 0 (by decide) (List.mem_of_getElem? (i := 1) rfl) rfl (v := .ref (gw_ad w 93)) rfl dX7_scaleOf_146 ?_
    refine g_bipush (pc := 149) hX (by decide) dX7_scaleOf_149 ?_
    refine g_lald (pc := 151) hX 93 (by omega) m93 (by omega) (by omega) (by decide) dX7_scaleOf_151 ?_
    refine g_lret (pc := 152) hX hR dX7_scaleOf_152 ?_
    refine ⟨vL_c ?_, rfl⟩
    unfold scnV
    rw [show i = 10 by omega]
    rfl

set_option maxHeartbeats 4000000 in
set_option maxRecDepth 100000 in
theorem c_X7_setting {w : gW} {l : Launch} {S : Nat → va_E} {pm tm xm at_ wm wh : Int} {ir : Bool} {V PV TY TX MK MM CH AM WT WK FL PI : Int → Int} (hN : gw_N w = 105) (hm : modelAt w pm tm xm at_ wm wh ir V PV TY TX MK MM CH AM WT WK FL PI S) {i : Int} (hi : inI i) :
    GM1 w l yX7_setting wsX7_setting { frames := 1, cells := 0, slots := 0, locals := 25 } [.ref (gw_ad w 92), vI (i)] S
      (fun v S' => v = vI (if 0 ≤ i ∧ i < 8 then V i else -1000001) ∧ S' = S) := by
  refine GM.start (own := RX7) (n := "setting") (d := "(I)I") (by decide) rfl (Nat.le_of_ble_eq_true rfl) ?_
  intro X hX hR hXl
  subst hXl
  refine g_at rfl (lv2 := [(0, .ref (gw_ad w 92)), (1, vI (i))]) rfl rfl rfl ?_
  obtain ⟨⟨m92, m93, m94⟩, ⟨m95, m96⟩, ⟨m97, m98, m99, m100, m101⟩, ⟨m102, m103, m104⟩⟩ := (id hm)
  refine g_iload_n (pc := 0) hX 1 rfl dX7_setting_0 ?_
  refine g_i2l (pc := 1) hX (by first | assumption | exact inI_mk (by omega) (by omega)) dX7_setting_1 ?_
  refine g_lconst (pc := 2) hX (z := 0) rfl dX7_setting_2 ?_
  refine g_ldc2 (pc := 3) hX (z := 7) (List.mem_of_getElem? (i := 1) rfl) (by decide +kernel) dX7_setting_3 ?_
  refine g_callT1 (pc := 6) (As := [vL (i), vL (0), vL (7)]) (st2 := []) hX (c_X7_in (x := i) (a := 0) (b := 7) (by first | assumption | exact inI_L (by assumption) | exact inL_mk (by omega) (by omega)) (by first | assumption | exact inI_L (by assumption) | exact inL_mk (by omega) (by omega)) (by first | assumption | exact inI_L (by assumption) | exact inL_mk (by omega) (by omega))) gX7_setting_X7_in (n := 3) (hw := rfl) (hrc := rfl) (hrs := rfl) (hd := by decide +kernel) (hR := ⟨Nat.le_of_ble_eq_true rfl, Nat.le_of_ble_eq_true rfl⟩) (hn := rfl) (hst := rfl) (hsum := Nat.le_of_ble_eq_true rfl) (hdg := dX7_setting_6) ?_
  rintro _ S9 ⟨rfl, e9⟩
  rw [e9]
  clear e9 S9
  refine g_at (pc2 := 9) rfl rfl (st2 := [vI (bz (decide (0 ≤ i ∧ i ≤ 7)))]) rfl (S2 := S) rfl ?_
  refine g_bif_eq (pc := 9) (tgt := 22) hX dX7_setting_9 (by decide) (fun c_9 => ?_) (fun c_9 => ?_)
  · skip
    refine g_ldc (pc := 22) hX (z := -1000001) (List.mem_of_getElem? (i := 3) rfl) (by decide +kernel) dX7_setting_22 ?_
    refine g_iret (pc := 24) hX hR dX7_setting_24 ?_
    try simp only [decide_eq_true_eq, decide_eq_false_iff_not] at c_9
    exact ⟨vI_c (if_neg (by omega)).symm, rfl⟩
  · skip
    have hidx := of_decide_eq_true c_9
    refine g_aload_n (pc := 12) hX 0 rfl dX7_setting_12 ?_
    refine g_get (pc := 13) hX (ci := 7) (fun _ h => List.mem_cons_of_mem _ (List.mem_append_right _ h)) rfl 92 (by omega) m92 0 (by decide) (List.mem_of_getElem? (i := 2) rfl) rfl (v := .ref (gw_ad w 93)) rfl dX7_setting_13 ?_
    refine g_iload_n (pc := 16) hX 1 rfl dX7_setting_16 ?_
    refine g_lald (pc := 17) hX 93 (by omega) m93 (by omega) (by omega) (by decide) dX7_setting_17 ?_
    refine g_l2i (pc := 18) hX dX7_setting_18 ?_
    refine g_goto (pc := 19) (tgt := 24) hX dX7_setting_19 (by decide) ?_
    refine g_iret (pc := 24) hX hR dX7_setting_24 ?_
    try simp only [decide_eq_true_eq, decide_eq_false_iff_not] at c_9
    exact ⟨vI_c (if_pos (by omega)).symm, rfl⟩

set_option maxHeartbeats 4000000 in
set_option maxRecDepth 100000 in
theorem c_X7_scale {w : gW} {l : Launch} {S : Nat → va_E} {pm tm xm at_ wm wh : Int} {ir : Bool} {V PV TY TX MK MM CH AM WT WK FL PI : Int → Int} (hN : gw_N w = 105) (hm : modelAt w pm tm xm at_ wm wh ir V PV TY TX MK MM CH AM WT WK FL PI S) (hv : mOK V) {i : Int} (hi : inI i) :
    GM1 w l yX7_scale wsX7_scale { frames := 4, cells := 0, slots := 0, locals := 86 } [.ref (gw_ad w 92), vI (i)] S
      (fun v S' => v = vI (if 0 ≤ i ∧ i ≤ 10 then scnV V i else -1000001) ∧ S' = S) := by
  refine GM.start (own := RX7) (n := "scale") (d := "(I)I") (by decide) rfl (Nat.le_of_ble_eq_true rfl) ?_
  intro X hX hR hXl
  subst hXl
  refine g_at rfl (lv2 := [(0, .ref (gw_ad w 92)), (1, vI (i))]) rfl rfl rfl ?_
  obtain ⟨⟨m92, m93, m94⟩, ⟨m95, m96⟩, ⟨m97, m98, m99, m100, m101⟩, ⟨m102, m103, m104⟩⟩ := (id hm)
  refine g_iload_n (pc := 0) hX 1 rfl dX7_scale_0 ?_
  refine g_i2l (pc := 1) hX (by first | assumption | exact inI_mk (by omega) (by omega)) dX7_scale_1 ?_
  refine g_lconst (pc := 2) hX (z := 0) rfl dX7_scale_2 ?_
  refine g_ldc2 (pc := 3) hX (z := 10) (List.mem_of_getElem? (i := 1) rfl) (by decide +kernel) dX7_scale_3 ?_
  refine g_callT1 (pc := 6) (As := [vL (i), vL (0), vL (10)]) (st2 := []) hX (c_X7_in (x := i) (a := 0) (b := 10) (by first | assumption | exact inI_L (by assumption) | exact inL_mk (by omega) (by omega)) (by first | assumption | exact inI_L (by assumption) | exact inL_mk (by omega) (by omega)) (by first | assumption | exact inI_L (by assumption) | exact inL_mk (by omega) (by omega))) gX7_scale_X7_in (n := 3) (hw := rfl) (hrc := rfl) (hrs := rfl) (hd := by decide +kernel) (hR := ⟨Nat.le_of_ble_eq_true rfl, Nat.le_of_ble_eq_true rfl⟩) (hn := rfl) (hst := rfl) (hsum := Nat.le_of_ble_eq_true rfl) (hdg := dX7_scale_6) ?_
  rintro _ S9 ⟨rfl, e9⟩
  rw [e9]
  clear e9 S9
  refine g_at (pc2 := 9) rfl rfl (st2 := [vI (bz (decide (0 ≤ i ∧ i ≤ 10)))]) rfl (S2 := S) rfl ?_
  refine g_bif_eq (pc := 9) (tgt := 21) hX dX7_scale_9 (by decide) (fun c_9 => ?_) (fun c_9 => ?_)
  · skip
    refine g_ldc (pc := 21) hX (z := -1000001) (List.mem_of_getElem? (i := 2) rfl) (by decide +kernel) dX7_scale_21 ?_
    refine g_iret (pc := 23) hX hR dX7_scale_23 ?_
    try simp only [decide_eq_true_eq, decide_eq_false_iff_not] at c_9
    exact ⟨vI_c (if_neg (by omega)).symm, rfl⟩
  · skip
    have hidx := of_decide_eq_true c_9
    refine g_aload_n (pc := 12) hX 0 rfl dX7_scale_12 ?_
    refine g_iload_n (pc := 13) hX 1 rfl dX7_scale_13 ?_
    refine g_callV1 (pc := 14) (ci := 7) (As := [vI (i)]) (st2 := []) hX 92 (by omega) m92 rfl (c_X7_scaleOf hN hm hv (i := i) (by omega) (by omega)) gX7_scale_X7_scaleOf (n := 1) (hw := rfl) (hrc := rfl) (hrs := rfl) (hd := by decide +kernel) (hR := ⟨Nat.le_of_ble_eq_true rfl, Nat.le_of_ble_eq_true rfl⟩) (hn := rfl) (hst := rfl) (hsum := Nat.le_of_ble_eq_true rfl) (hdg := dX7_scale_14) ?_
    rintro _ S9 ⟨rfl, e9⟩
    rw [e9]
    clear e9 S9
    refine g_at (pc2 := 17) rfl rfl (st2 := [vL (scnV V i)]) rfl (S2 := S) rfl ?_
    refine g_l2i (pc := 17) hX dX7_scale_17 ?_
    refine g_goto (pc := 18) (tgt := 23) hX dX7_scale_18 (by decide) ?_
    refine g_iret (pc := 23) hX hR dX7_scale_23 ?_
    try simp only [decide_eq_true_eq, decide_eq_false_iff_not] at c_9
    exact ⟨vI_c (if_pos (by omega)).symm, rfl⟩
