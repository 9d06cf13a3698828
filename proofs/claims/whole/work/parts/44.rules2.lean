/-! ===== the reference: all rules read again ===== -/
def txT (V : Int → Int) (i : Int) : Int → Int := fun j => V (80 + 61 * i + 1 + j)
theorem cpV_s {TX V : Int → Int} {i c : Int} (h : 0 ≤ c) : updZ (cpT TX (txT V i) c) c (V (80 + 61 * i + 1 + c)) = cpT TX (txT V i) (c + 1) := cpT_s h
theorem cpT_in2 {TX TY : Int → Int} {c : Int} (h : ∀ j, inI (TX j)) (h2 : ∀ j, 0 ≤ j → j < c → inI (TY j)) : ∀ j, inI (cpT TX TY c j) := by
  intro j
  unfold cpT
  split
  · rename_i h3; exact h2 j h3.1 h3.2
  · exact h j
theorem cpT_e (TX TY : Int → Int) {c j : Int} (h : 0 ≤ j ∧ j < c) : cpT TX TY c j = TY j := if_pos h

set_option maxHeartbeats 4000000 in
set_option maxRecDepth 100000 in
theorem c_X7_readsRules {w : gW} {l : Launch} {S : Nat → va_E} {pm tm xm at_ wm wh : Int} {ir : Bool} {V PV TY TX MK MM CH AM WT WK FL PI : Int → Int} (hN : gw_N w = 105) (hm : modelAt w pm tm xm at_ wm wh ir V PV TY TX MK MM CH AM WT WK FL PI S) (h18 : 0 ≤ V 18 ∧ V 18 ≤ 8) (hTX : ∀ i, inI (TX i)) (hWT : ∀ i, inI (WT i)) (hrt : ∀ i, 0 ≤ i → i < V 18 → 0 ≤ V (80 + 61 * i) ∧ V (80 + 61 * i) ≤ 60) (hVt : ∀ j, 80 ≤ j → j < 568 → inI (V j)) {s0 : Int → rdS} (hz : ∀ i, (s0 i).1 0 = 0 ∧ (s0 i).1 4 = 0 ∧ (s0 i).1 5 = 0) (hgd : ∀ i, 0 ≤ i → i < V 18 → ∀ n, ¬ rStop (txT V i) (s0 i) (V (80 + 61 * i)) n) :
    GM0 w l yX7_readsRules wsX7_readsRules { frames := 4, cells := 0, slots := 0, locals := 93 } [.ref (gw_ad w 92)] S
      (fun S' => ∃ (xm1 at1 wm1 wh1 : Int) (ir1 : Bool) (TX1 WT1 MK1 MM1 CH1 AM1 : Int → Int), POSTM w S pm tm xm1 at1 wm1 wh1 ir1 V PV TY TX1 MK1 MM1 CH1 AM1 WT1 WK FL PI S' ∧ (∀ i, inI (TX1 i)) ∧ (∀ i, inI (WT1 i)) ∧ ∀ j, 0 ≤ j → j < V 18 → Read (txT V j) (s0 j) j (V (80 + 61 * j)) MK1 (MM1 j) (CH1 j) (AM1 j) ∧ 0 ≤ MM1 j ∧ MM1 j ≤ 60) := by
  refine GM.start (own := RX7) (n := "readsRules") (d := "()V") (by decide) rfl (Nat.le_of_ble_eq_true rfl) ?_
  intro X hX hR hXl
  subst hXl
  refine g_at rfl (lv2 := [(0, .ref (gw_ad w 92))]) rfl rfl rfl ?_
  obtain ⟨⟨m92, m93, m94⟩, ⟨m95, m96⟩, ⟨m97, m98, m99, m100, m101⟩, ⟨m102, m103, m104⟩⟩ := (id hm)
  refine g_iconst (pc := 0) hX dX7_readsRules_0 ?_
  refine g_istore_n (pc := 1) hX (lv2 := [(1, vI (0)), (0, .ref (gw_ad w 92))]) rfl (by decide) rfl dX7_readsRules_1 ?_
  have lo : ∀ (n0 : Nat) (i : Int) (xm1 : Int) (at1 : Int) (wm1 : Int) (wh1 : Int) (ir1 : Bool) (TX1 : Int → Int) (WT1 : Int → Int) (MK1 : Int → Int) (MM1 : Int → Int) (CH1 : Int → Int) (AM1 : Int → Int) (Slo : Nat → va_E), V 18 - i < n0 → POSTM w S pm tm xm1 at1 wm1 wh1 ir1 V PV TY TX1 MK1 MM1 CH1 AM1 WT1 WK FL PI Slo → (0 ≤ i ∧ i ≤ V 18) → (∀ i, inI (TX1 i)) → (∀ i, inI (WT1 i)) → (∀ j, 0 ≤ j → j < i → Read (txT V j) (s0 j) j (V (80 + 61 * j)) MK1 (MM1 j) (CH1 j) (AM1 j) ∧ 0 ≤ MM1 j ∧ MM1 j ≤ 60) → G w { frames := 4, cells := 0, slots := 0, locals := 93 } X 3 2 [(1, vI (i)), (0, .ref (gw_ad w 92))] [] Slo := by
    intro n0
    induction n0 with
    | zero => intro i xm1 at1 wm1 wh1 ir1 TX1 WT1 MK1 MM1 CH1 AM1 Slo hzlo hQlo hi hT1 hW1 hRd; exact absurd hzlo (by omega)
    | succ n0 ihlo =>
      intro i xm1 at1 wm1 wh1 ir1 TX1 WT1 MK1 MM1 CH1 AM1 Slo hzlo hQlo hi hT1 hW1 hRd
      obtain ⟨⟨lo_92, lo_93, lo_94⟩, ⟨lo_95, lo_96⟩, ⟨lo_97, lo_98, lo_99, lo_100, lo_101⟩, ⟨lo_102, lo_103, lo_104⟩⟩ := hQlo.1
      refine g_iload_n (pc := 2) hX 0 rfl dX7_readsRules_2 ?_
      refine g_i2l (pc := 3) hX (by first | assumption | exact inI_mk (by omega) (by omega)) dX7_readsRules_3 ?_
      refine g_aload_n (pc := 4) hX 1 rfl dX7_readsRules_4 ?_
      refine g_get (pc := 5) hX (ci := 7) (fun _ h => List.mem_cons_of_mem _ (List.mem_append_right _ h)) rfl 92 (by omega) lo_92 0 (by decide) (List.mem_of_getElem? (i := 1) rfl) rfl (v := .ref (gw_ad w 93)) rfl dX7_readsRules_5 ?_
      refine g_bipush (pc := 8) hX (by decide) dX7_readsRules_8 ?_
      refine g_lald (pc := 10) hX 93 (by omega) lo_93 (by omega) (by omega) (by decide) dX7_readsRules_10 ?_
      refine g_lcmp_ge (pc := 11) (tgt := 86) hX (by first | assumption | exact inI_L (by assumption) | exact inL_mk (by omega) (by omega)) (by first | assumption | exact inI_L (by assumption) | exact inL_mk (by omega) (by omega)) dX7_readsRules_11 dX7_readsRules_12 (by decide) (fun c_11 => ?_) (fun c_11 => ?_)
      · skip
        refine g_vret (pc := 86) hX hR dX7_readsRules_86 ?_
        have hi1 : i = V 18 := by omega
        rw [hi1] at hRd
        exact ⟨_, _, _, _, _, _, _, _, _, _, _, ⟨⟨⟨lo_92, lo_93, lo_94⟩, ⟨lo_95, lo_96⟩, ⟨lo_97, lo_98, lo_99, lo_100, lo_101⟩, ⟨lo_102, lo_103, lo_104⟩⟩, fun q hq => ((hQlo.2 q hq).trans rfl)⟩, hT1, hW1, hRd⟩
      · skip
        have hri := hrt i hi.1 (by omega)
        refine g_aload_n (pc := 15) hX 1 rfl dX7_readsRules_15 ?_
        refine g_aload_n (pc := 16) hX 1 rfl dX7_readsRules_16 ?_
        refine g_get (pc := 17) hX (ci := 7) (fun _ h => List.mem_cons_of_mem _ (List.mem_append_right _ h)) rfl 92 (by omega) lo_92 0 (by decide) (List.mem_of_getElem? (i := 1) rfl) rfl (v := .ref (gw_ad w 93)) rfl dX7_readsRules_17 ?_
        refine g_bipush (pc := 20) hX (by decide) dX7_readsRules_20 ?_
        refine g_bipush (pc := 22) hX (by decide) dX7_readsRules_22 ?_
        refine g_iload_n (pc := 24) hX 0 rfl dX7_readsRules_24 ?_
        refine g_imul (pc := 25) hX dX7_readsRules_25 ?_
        refine g_iadd (pc := 26) hX dX7_readsRules_26 ?_
        refine g_lald (pc := 27) hX 93 (by omega) lo_93 (by omega) (by omega) (by decide) dX7_readsRules_27 ?_
        refine g_l2i (pc := 28) hX dX7_readsRules_28 ?_
        refine g_put (pc := 29) hX (ci := 7) (fun _ h => List.mem_cons_of_mem _ (List.mem_append_right _ h)) rfl tyX7 tyX7_ok nmX7 92 (by omega) lo_92 6 (by decide) (List.mem_of_getElem? (i := 2) rfl) rfl rfl (tyX7_ok 6 (by decide)) rfl (fit_int _) (Nat.le_of_ble_eq_true rfl) dX7_readsRules_29 ?_
        refine g_at rfl rfl rfl (S2 := (va_up Slo 92 (.inr (7, [.ref (gw_ad w 93), .ref (gw_ad w 94), vI (pm), .ref (gw_ad w 95), vI (tm), .ref (gw_ad w 96), vI (V (80 + (61 * i))), vI (at1), .ref (gw_ad w 97), .ref (gw_ad w 98), .ref (gw_ad w 99), .ref (gw_ad w 100), .ref (gw_ad w 101), vI (wm1), vI (wh1), vI (bz (ir1)), .ref (gw_ad w 102), .ref (gw_ad w 103), .ref (gw_ad w 104)])))) rfl ?_
        refine g_iconst (pc := 32) hX dX7_readsRules_32 ?_
        refine g_istore_n (pc := 33) hX (lv2 := [(2, vI (0)), (1, vI (i)), (0, .ref (gw_ad w 92))]) rfl (by decide) rfl dX7_readsRules_33 ?_
        have la : ∀ (n0 : Nat) (c : Int), 0 ≤ c → c ≤ V (80 + 61 * i) → V (80 + 61 * i) - c < n0 → G w { frames := 4, cells := 0, slots := 0, locals := 93 } X 3 34 [(2, vI (c)), (0, .ref (gw_ad w 92)), (1, vI (i))] [] (va_up (va_up Slo 92 (.inr (7, [.ref (gw_ad w 93), .ref (gw_ad w 94), vI (pm), .ref (gw_ad w 95), vI (tm), .ref (gw_ad w 96), vI (V (80 + (61 * i))), vI (at1), .ref (gw_ad w 97), .ref (gw_ad w 98), .ref (gw_ad w 99), .ref (gw_ad w 100), .ref (gw_ad w 101), vI (wm1), vI (wh1), vI (bz (ir1)), .ref (gw_ad w 102), .ref (gw_ad w 103), .ref (gw_ad w 104)]))) 96 (AI w 60 (cpT TX1 (txT V i) c))) := by
          intro n0
          induction n0 with
          | zero => intro c  h1c h2c h3c; exact absurd h3c (by omega)
          | succ n0 ihla =>
            intro c  h1c h2c h3c 
            have hc : inI c := inI_mk (by omega) (by omega)
            refine g_iload_n (pc := 34) hX 0 rfl dX7_readsRules_34 ?_
            refine g_aload_n (pc := 35) hX 1 rfl dX7_readsRules_35 ?_
            refine g_get (pc := 36) hX (ci := 7) (fun _ h => List.mem_cons_of_mem _ (List.mem_append_right _ h)) rfl 92 (by omega) (up_ne (by decide) (up_eq _ _ _)) 6 (by decide) (List.mem_of_getElem? (i := 2) rfl) rfl (v := vI (V (80 + (61 * i)))) rfl dX7_readsRules_36 ?_
            refine g_icmp_ge (pc := 39) (tgt := 71) hX (by first | assumption | exact inI_mk (by omega) (by omega)) (by first | assumption | exact inI_mk (by omega) (by omega)) dX7_readsRules_39 (by decide) (fun c_39 => ?_) (fun c_39 => ?_)
            · skip
              have hct : c = V (80 + 61 * i) := by omega
              have hVi : ∀ j, 0 ≤ j → j < c → inI (txT V i j) := fun j a b => hVt _ (by omega) (by omega)
              refine g_aload_n (pc := 71) hX 1 rfl dX7_readsRules_71 ?_
              refine g_aload_n (pc := 72) hX 1 rfl dX7_readsRules_72 ?_
              refine g_iload_n (pc := 73) hX 2 rfl dX7_readsRules_73 ?_
              refine g_callV1 (pc := 74) (ci := 7) (As := [vI (i)]) (st2 := [.ref (gw_ad w 92)]) hX 92 (by omega) (up_ne (by decide) (up_eq _ _ _)) rfl (c_X7_readsRule hN (show modelAt w pm tm (V (80 + (61 * i))) at1 wm1 wh1 ir1 V PV TY (cpT TX1 (txT V i) c) MK1 MM1 CH1 AM1 WT1 WK FL PI (va_up (va_up Slo 92 (.inr (7, [.ref (gw_ad w 93), .ref (gw_ad w 94), vI (pm), .ref (gw_ad w 95), vI (tm), .ref (gw_ad w 96), vI (V (80 + (61 * i))), vI (at1), .ref (gw_ad w 97), .ref (gw_ad w 98), .ref (gw_ad w 99), .ref (gw_ad w 100), .ref (gw_ad w 101), vI (wm1), vI (wh1), vI (bz (ir1)), .ref (gw_ad w 102), .ref (gw_ad w 103), .ref (gw_ad w 104)]))) 96 (AI w 60 (cpT TX1 (txT V i) c))) from ⟨⟨(up_ne (by decide) (up_eq _ _ _)), (up_ne (by decide) (up_ne (by decide) lo_93)), (up_ne (by decide) (up_ne (by decide) lo_94))⟩, ⟨(up_ne (by decide) (up_ne (by decide) lo_95)), (up_eq _ _ _)⟩, ⟨(up_ne (by decide) (up_ne (by decide) lo_97)), (up_ne (by decide) (up_ne (by decide) lo_98)), (up_ne (by decide) (up_ne (by decide) lo_99)), (up_ne (by decide) (up_ne (by decide) lo_100)), (up_ne (by decide) (up_ne (by decide) lo_101))⟩, ⟨(up_ne (by decide) (up_ne (by decide) lo_102)), (up_ne (by decide) (up_ne (by decide) lo_103)), (up_ne (by decide) (up_ne (by decide) lo_104))⟩⟩) (kk := i) ⟨by omega, by omega⟩ hri (cpT_in2 hT1 hVi) hW1 (s0 := s0 i) (hz i).1 (hz i).2.1 (hz i).2.2) gX7_readsRules_X7_readsRule (n := 1) (hw := rfl) (hrc := rfl) (hrs := rfl) (hd := by decide +kernel) (hR := ⟨Nat.le_of_ble_eq_true rfl, Nat.le_of_ble_eq_true rfl⟩) (hn := rfl) (hst := rfl) (hsum := Nat.le_of_ble_eq_true rfl) (hdg := dX7_readsRules_74) ?_
              rintro v74 S74 ⟨at74, wm74, WT74, MK74, MM74, CH74, AM74, hP74, hA74, hW74, hF74, hM74, hC74, hd74⟩
              obtain ⟨b74, rfl, hb74⟩ : ∃ b, v74 = vI (bz b) ∧ ((b = true ∧ at74 = V (80 + (61 * i)) ∧ Read (cpT TX1 (txT V i) c) (s0 i) i (V (80 + (61 * i))) MK74 (MM74 i) (CH74 i) (AM74 i)) ∨ (b = false ∧ rStop (cpT TX1 (txT V i) c) (s0 i) (V (80 + (61 * i))) at74)) := hd74.elim (fun h => ⟨true, h.1, Or.inl ⟨rfl, h.2⟩⟩) (fun h => ⟨false, h.1, Or.inr ⟨rfl, h.2⟩⟩)
              obtain ⟨⟨m74_92, m74_93, m74_94⟩, ⟨m74_95, m74_96⟩, ⟨m74_97, m74_98, m74_99, m74_100, m74_101⟩, ⟨m74_102, m74_103, m74_104⟩⟩ := hP74.1
              refine g_at (pc2 := 77) rfl rfl (st2 := [vI (bz (b74)), .ref (gw_ad w 92)]) rfl (S2 := S74) rfl ?_
              refine g_put (pc := 77) hX (ci := 7) (fun _ h => List.mem_cons_of_mem _ (List.mem_append_right _ h)) rfl tyX7 tyX7_ok nmX7 92 (by omega) m74_92 15 (by decide) (List.mem_of_getElem? (i := 4) rfl) rfl rfl (tyX7_ok 15 (by decide)) (nar_bz _) (fit_bz _) (Nat.le_of_ble_eq_true rfl) dX7_readsRules_77 ?_
              refine g_at rfl rfl rfl (S2 := (va_up S74 92 (.inr (7, [.ref (gw_ad w 93), .ref (gw_ad w 94), vI (pm), .ref (gw_ad w 95), vI (tm), .ref (gw_ad w 96), vI (V (80 + (61 * i))), vI (at74), .ref (gw_ad w 97), .ref (gw_ad w 98), .ref (gw_ad w 99), .ref (gw_ad w 100), .ref (gw_ad w 101), vI (wm74), vI (i), vI (bz (b74)), .ref (gw_ad w 102), .ref (gw_ad w 103), .ref (gw_ad w 104)])))) rfl ?_
              have hrd := hb74.elim (fun h => h.2) (fun h => absurd (rStop_c h.2 hri.1 (fun q q1 q2 => cpT_e _ _ ⟨q1, by omega⟩)) (hgd i hi.1 (by omega) _))
              refine g_iinc (pc := 80) hX (lv2 := [(1, vI (i + 1)), (2, vI (c)), (0, .ref (gw_ad w 92))]) 2 rfl (by decide) rfl dX7_readsRules_80 ?_
              refine g_goto (pc := 83) (tgt := 2) hX dX7_readsRules_83 (by decide) ?_
              refine g_sub (lv2 := [(1, vI (i + 1)), (0, .ref (gw_ad w 92))]) [0, 2] rfl ?_
              exact ihlo (i + 1) (V (80 + (61 * i))) (at74) (wm74) (i) (b74) (cpT TX1 (txT V i) c) (WT74) (MK74) (MM74) (CH74) (AM74) _ (by omega) (show POSTM w S pm tm (V (80 + (61 * i))) at74 wm74 i b74 V PV TY (cpT TX1 (txT V i) c) MK74 MM74 CH74 AM74 WT74 WK FL PI (va_up S74 92 (.inr (7, [.ref (gw_ad w 93), .ref (gw_ad w 94), vI (pm), .ref (gw_ad w 95), vI (tm), .ref (gw_ad w 96), vI (V (80 + (61 * i))), vI (at74), .ref (gw_ad w 97), .ref (gw_ad w 98), .ref (gw_ad w 99), .ref (gw_ad w 100), .ref (gw_ad w 101), vI (wm74), vI (i), vI (bz (b74)), .ref (gw_ad w 102), .ref (gw_ad w 103), .ref (gw_ad w 104)]))) from ⟨⟨⟨(up_eq _ _ _), (up_ne (by decide) m74_93), (up_ne (by decide) m74_94)⟩, ⟨(up_ne (by decide) m74_95), (up_ne (by decide) m74_96)⟩, ⟨(up_ne (by decide) m74_97), (up_ne (by decide) m74_98), (up_ne (by decide) m74_99), (up_ne (by decide) m74_100), (up_ne (by decide) m74_101)⟩, ⟨(up_ne (by decide) m74_102), (up_ne (by decide) m74_103), (up_ne (by decide) m74_104)⟩⟩, fun q hq => (up_ne (by omega) ((hP74.2 q hq).trans (up_ne (by omega) (up_ne (by omega) ((hQlo.2 q hq).trans rfl)))))⟩) (⟨by omega, by omega⟩) (cpT_in2 hT1 hVi) (hW74) (fun j a b => (Int.lt_or_eq_of_le (show j ≤ i by omega)).elim (fun h => by rw [hF74.2 j (by omega), (hC74 j (by omega)).1, (hC74 j (by omega)).2]; exact ⟨Read_c (hRd j a h).1 (hrt j a (by omega)).1 (fun _ _ _ => rfl) (by have := (hRd j a h).2; omega) (fun q q1 q2 => hF74.1 q (Or.inl (by omega))), (hRd j a h).2⟩) (fun h => by rw [h]; exact ⟨Read_c hrd.2 hri.1 (fun q q1 q2 => cpT_e _ _ ⟨q1, by omega⟩) (by omega) (fun _ _ _ => rfl), hM74⟩))
            · skip
              refine g_aload_n (pc := 42) hX 1 rfl dX7_readsRules_42 ?_
              refine g_get (pc := 43) hX (ci := 7) (fun _ h => List.mem_cons_of_mem _ (List.mem_append_right _ h)) rfl 92 (by omega) (up_ne (by decide) (up_eq _ _ _)) 5 (by decide) (List.mem_of_getElem? (i := 3) rfl) rfl (v := .ref (gw_ad w 96)) rfl dX7_readsRules_43 ?_
              refine g_iload_n (pc := 46) hX 0 rfl dX7_readsRules_46 ?_
              refine g_aload_n (pc := 47) hX 1 rfl dX7_readsRules_47 ?_
              refine g_get (pc := 48) hX (ci := 7) (fun _ h => List.mem_cons_of_mem _ (List.mem_append_right _ h)) rfl 92 (by omega) (up_ne (by decide) (up_eq _ _ _)) 0 (by decide) (List.mem_of_getElem? (i := 1) rfl) rfl (v := .ref (gw_ad w 93)) rfl dX7_readsRules_48 ?_
              refine g_bipush (pc := 51) hX (by decide) dX7_readsRules_51 ?_
              refine g_bipush (pc := 53) hX (by decide) dX7_readsRules_53 ?_
              refine g_iload_n (pc := 55) hX 2 rfl dX7_readsRules_55 ?_
              refine g_imul (pc := 56) hX dX7_readsRules_56 ?_
              refine g_iadd (pc := 57) hX dX7_readsRules_57 ?_
              refine g_iconst (pc := 58) hX dX7_readsRules_58 ?_
              refine g_iadd (pc := 59) hX dX7_readsRules_59 ?_
              refine g_iload_n (pc := 60) hX 0 rfl dX7_readsRules_60 ?_
              refine g_iadd (pc := 61) hX dX7_readsRules_61 ?_
              refine g_lald (pc := 62) hX 93 (by omega) (up_ne (by decide) (up_ne (by decide) lo_93)) (by omega) (by omega) (by decide) dX7_readsRules_62 ?_
              refine g_l2i (pc := 63) hX dX7_readsRules_63 ?_
              refine g_iast (pc := 64) hX 96 (by omega) (up_eq _ _ _) (by omega) (by omega) (by decide) dX7_readsRules_64 ?_
              refine g_at rfl rfl rfl (S2 := (va_up (va_up (va_up Slo 92 (.inr (7, [.ref (gw_ad w 93), .ref (gw_ad w 94), vI (pm), .ref (gw_ad w 95), vI (tm), .ref (gw_ad w 96), vI (V (80 + (61 * i))), vI (at1), .ref (gw_ad w 97), .ref (gw_ad w 98), .ref (gw_ad w 99), .ref (gw_ad w 100), .ref (gw_ad w 101), vI (wm1), vI (wh1), vI (bz (ir1)), .ref (gw_ad w 102), .ref (gw_ad w 103), .ref (gw_ad w 104)]))) 96 (AI w 60 (cpT TX1 (txT V i) c))) 96 (AI w 60 (updZ (cpT TX1 (txT V i) c) (c) (V (((80 + (61 * i)) + 1) + c)))))) rfl ?_
              refine g_iinc (pc := 65) hX (lv2 := [(2, vI (c + 1)), (0, .ref (gw_ad w 92)), (1, vI (i))]) 0 rfl (by decide) rfl dX7_readsRules_65 ?_
              refine g_goto (pc := 68) (tgt := 34) hX dX7_readsRules_68 (by decide) ?_
              refine g_sub (lv2 := [(2, vI (c + 1)), (0, .ref (gw_ad w 92)), (1, vI (i))]) [0, 1, 2] rfl ?_
              refine g_at rfl (lv2 := [(2, vI (c + 1)), (0, .ref (gw_ad w 92)), (1, vI (i))]) (rfl) rfl (S2 := (va_up (va_up Slo 92 (.inr (7, [.ref (gw_ad w 93), .ref (gw_ad w 94), vI (pm), .ref (gw_ad w 95), vI (tm), .ref (gw_ad w 96), vI (V (80 + (61 * i))), vI (at1), .ref (gw_ad w 97), .ref (gw_ad w 98), .ref (gw_ad w 99), .ref (gw_ad w 100), .ref (gw_ad w 101), vI (wm1), vI (wh1), vI (bz (ir1)), .ref (gw_ad w 102), .ref (gw_ad w 103), .ref (gw_ad w 104)]))) 96 (AI w 60 (cpT TX1 (txT V i) (c + 1))))) (by rw [up_up, cpV_s h1c]) ?_
              exact ihla (c + 1)  (by omega) (by omega) (by omega) 
        refine g_sub (lv2 := [(2, vI (0)), (0, .ref (gw_ad w 92)), (1, vI (i))]) [0, 2, 1] rfl ?_
        refine g_at rfl (lv2 := [(2, vI (0)), (0, .ref (gw_ad w 92)), (1, vI (i))]) (rfl) rfl (S2 := (va_up (va_up Slo 92 (.inr (7, [.ref (gw_ad w 93), .ref (gw_ad w 94), vI (pm), .ref (gw_ad w 95), vI (tm), .ref (gw_ad w 96), vI (V (80 + (61 * i))), vI (at1), .ref (gw_ad w 97), .ref (gw_ad w 98), .ref (gw_ad w 99), .ref (gw_ad w 100), .ref (gw_ad w 101), vI (wm1), vI (wh1), vI (bz (ir1)), .ref (gw_ad w 102), .ref (gw_ad w 103), .ref (gw_ad w 104)]))) 96 (AI w 60 (cpT TX1 (txT V i) 0)))) (by rw [cpT_0, up_self (f := (va_up Slo 92 (.inr (7, [.ref (gw_ad w 93), .ref (gw_ad w 94), vI (pm), .ref (gw_ad w 95), vI (tm), .ref (gw_ad w 96), vI (V (80 + (61 * i))), vI (at1), .ref (gw_ad w 97), .ref (gw_ad w 98), .ref (gw_ad w 99), .ref (gw_ad w 100), .ref (gw_ad w 101), vI (wm1), vI (wh1), vI (bz (ir1)), .ref (gw_ad w 102), .ref (gw_ad w 103), .ref (gw_ad w 104)])))) (up_ne (by decide) lo_96)]) ?_
        exact la ((V (80 + 61 * i) : Int) - 0 + 1).toNat 0  (by omega) (by omega) (by omega) 
  refine g_sub (lv2 := [(1, vI (0)), (0, .ref (gw_ad w 92))]) [0, 1] rfl ?_
  exact lo ((V 18 - 0) + 1).toNat (0) (xm) (at_) (wm) (wh) (ir) (TX) (WT) (MK) (MM) (CH) (AM) _ (by omega) ⟨⟨⟨m92, m93, m94⟩, ⟨m95, m96⟩, ⟨m97, m98, m99, m100, m101⟩, ⟨m102, m103, m104⟩⟩, fun q hq => rfl⟩ (⟨by omega, by omega⟩) (hTX) (hWT) (fun j a b => absurd b (by omega))
