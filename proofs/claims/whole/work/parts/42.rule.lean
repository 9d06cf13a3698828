/-! ===== the reference's reader of texts: a whole rule ===== -/
theorem updZ_in {f : Int → Int} {i x : Int} (h : ∀ j, inI (f j)) (hx : inI x) : ∀ j, inI (updZ f i x j) := by
  intro j
  unfold updZ
  split
  · exact hx
  · exact h j

set_option maxHeartbeats 4000000 in
set_option maxRecDepth 100000 in
theorem c_X7_readsRule {w : gW} {l : Launch} {S : Nat → va_E} {pm tm xm at_ wm wh : Int} {ir : Bool} {V PV TY TX MK MM CH AM WT WK FL PI : Int → Int} (hN : gw_N w = 105) (hm : modelAt w pm tm xm at_ wm wh ir V PV TY TX MK MM CH AM WT WK FL PI S) {kk : Int} (hwh : 0 ≤ kk ∧ kk < 8) (hxm : 0 ≤ xm ∧ xm ≤ 60) (hTX : ∀ i, inI (TX i)) (hWT : ∀ i, inI (WT i)) {s0 : rdS} (h00 : s0.1 0 = 0) (h04 : s0.1 4 = 0) (h05 : s0.1 5 = 0) :
    GM1 w l yX7_readsRule wsX7_readsRule { frames := 3, cells := 0, slots := 0, locals := 70 } [.ref (gw_ad w 92), vI (kk)] S
      (fun v S' => ∃ (at1 wm1 : Int) (WT1 MK1 MM1 CH1 AM1 : Int → Int), POSTM w S pm tm xm at1 wm1 kk ir V PV TY TX MK1 MM1 CH1 AM1 WT1 WK FL PI S' ∧ (0 ≤ at1 ∧ at1 ≤ xm) ∧ (∀ i, inI (WT1 i)) ∧ FRM kk MK MM MK1 MM1 ∧ (0 ≤ MM1 kk ∧ MM1 kk ≤ 60) ∧ (∀ j, j ≠ kk → CH1 j = CH j ∧ AM1 j = AM j) ∧ ((v = vI (bz true) ∧ at1 = xm ∧ Read TX s0 kk xm MK1 (MM1 kk) (CH1 kk) (AM1 kk)) ∨ (v = vI (bz false) ∧ rStop TX s0 xm at1))) := by
  refine GM.start (own := RX7) (n := "readsRule") (d := "(I)Z") (by decide) rfl (Nat.le_of_ble_eq_true rfl) ?_
  intro X hX hR hXl
  subst hXl
  refine g_at rfl (lv2 := [(0, .ref (gw_ad w 92)), (1, vI (kk))]) rfl rfl rfl ?_
  obtain ⟨⟨m92, m93, m94⟩, ⟨m95, m96⟩, ⟨m97, m98, m99, m100, m101⟩, ⟨m102, m103, m104⟩⟩ := (id hm)
  refine g_aload_n (pc := 0) hX 0 rfl dX7_readsRule_0 ?_
  refine g_iload_n (pc := 1) hX 1 rfl dX7_readsRule_1 ?_
  refine g_put (pc := 2) hX (ci := 7) (fun _ h => List.mem_cons_of_mem _ (List.mem_append_right _ h)) rfl tyX7 tyX7_ok nmX7 92 (by omega) m92 14 (by decide) (List.mem_of_getElem? (i := 1) rfl) rfl rfl (tyX7_ok 14 (by decide)) rfl (fit_int _) (Nat.le_of_ble_eq_true rfl) dX7_readsRule_2 ?_
  refine g_at rfl rfl rfl (S2 := (va_up S 92 (.inr (7, [.ref (gw_ad w 93), .ref (gw_ad w 94), vI (pm), .ref (gw_ad w 95), vI (tm), .ref (gw_ad w 96), vI (xm), vI (at_), .ref (gw_ad w 97), .ref (gw_ad w 98), .ref (gw_ad w 99), .ref (gw_ad w 100), .ref (gw_ad w 101), vI (wm), vI (kk), vI (bz (ir)), .ref (gw_ad w 102), .ref (gw_ad w 103), .ref (gw_ad w 104)])))) rfl ?_
  refine g_aload_n (pc := 5) hX 0 rfl dX7_readsRule_5 ?_
  refine g_get (pc := 6) hX (ci := 7) (fun _ h => List.mem_cons_of_mem _ (List.mem_append_right _ h)) rfl 92 (by omega) (up_eq _ _ _) 9 (by decide) (List.mem_of_getElem? (i := 2) rfl) rfl (v := .ref (gw_ad w 98)) rfl dX7_readsRule_6 ?_
  refine g_iload_n (pc := 9) hX 1 rfl dX7_readsRule_9 ?_
  refine g_iconst (pc := 10) hX dX7_readsRule_10 ?_
  refine g_iast (pc := 11) hX 98 (by omega) (up_ne (by decide) m98) (by omega) (by omega) (by decide) dX7_readsRule_11 ?_
  refine g_at rfl rfl rfl (S2 := (va_up (va_up S 92 (.inr (7, [.ref (gw_ad w 93), .ref (gw_ad w 94), vI (pm), .ref (gw_ad w 95), vI (tm), .ref (gw_ad w 96), vI (xm), vI (at_), .ref (gw_ad w 97), .ref (gw_ad w 98), .ref (gw_ad w 99), .ref (gw_ad w 100), .ref (gw_ad w 101), vI (wm), vI (kk), vI (bz (ir)), .ref (gw_ad w 102), .ref (gw_ad w 103), .ref (gw_ad w 104)]))) 98 (AI w 8 (updZ (MM) (kk) (0))))) rfl ?_
  refine g_aload_n (pc := 12) hX 0 rfl dX7_readsRule_12 ?_
  refine g_iconst (pc := 13) hX dX7_readsRule_13 ?_
  refine g_put (pc := 14) hX (ci := 7) (fun _ h => List.mem_cons_of_mem _ (List.mem_append_right _ h)) rfl tyX7 tyX7_ok nmX7 92 (by omega) (up_ne (by decide) (up_eq _ _ _)) 13 (by decide) (List.mem_of_getElem? (i := 3) rfl) rfl rfl (tyX7_ok 13 (by decide)) rfl (fit_int _) (Nat.le_of_ble_eq_true rfl) dX7_readsRule_14 ?_
  refine g_at rfl rfl rfl (S2 := (va_up (va_up (va_up S 92 (.inr (7, [.ref (gw_ad w 93), .ref (gw_ad w 94), vI (pm), .ref (gw_ad w 95), vI (tm), .ref (gw_ad w 96), vI (xm), vI (at_), .ref (gw_ad w 97), .ref (gw_ad w 98), .ref (gw_ad w 99), .ref (gw_ad w 100), .ref (gw_ad w 101), vI (wm), vI (kk), vI (bz (ir)), .ref (gw_ad w 102), .ref (gw_ad w 103), .ref (gw_ad w 104)]))) 98 (AI w 8 (updZ (MM) (kk) (0)))) 92 (.inr (7, [.ref (gw_ad w 93), .ref (gw_ad w 94), vI (pm), .ref (gw_ad w 95), vI (tm), .ref (gw_ad w 96), vI (xm), vI (at_), .ref (gw_ad w 97), .ref (gw_ad w 98), .ref (gw_ad w 99), .ref (gw_ad w 100), .ref (gw_ad w 101), vI (0), vI (kk), vI (bz (ir)), .ref (gw_ad w 102), .ref (gw_ad w 103), .ref (gw_ad w 104)])))) rfl ?_
  refine g_aload_n (pc := 17) hX 0 rfl dX7_readsRule_17 ?_
  refine g_iconst (pc := 18) hX dX7_readsRule_18 ?_
  refine g_put (pc := 19) hX (ci := 7) (fun _ h => List.mem_cons_of_mem _ (List.mem_append_right _ h)) rfl tyX7 tyX7_ok nmX7 92 (by omega) (up_eq _ _ _) 7 (by decide) (List.mem_of_getElem? (i := 4) rfl) rfl rfl (tyX7_ok 7 (by decide)) rfl (fit_int _) (Nat.le_of_ble_eq_true rfl) dX7_readsRule_19 ?_
  refine g_at rfl rfl rfl (S2 := (va_up (va_up (va_up (va_up S 92 (.inr (7, [.ref (gw_ad w 93), .ref (gw_ad w 94), vI (pm), .ref (gw_ad w 95), vI (tm), .ref (gw_ad w 96), vI (xm), vI (at_), .ref (gw_ad w 97), .ref (gw_ad w 98), .ref (gw_ad w 99), .ref (gw_ad w 100), .ref (gw_ad w 101), vI (wm), vI (kk), vI (bz (ir)), .ref (gw_ad w 102), .ref (gw_ad w 103), .ref (gw_ad w 104)]))) 98 (AI w 8 (updZ (MM) (kk) (0)))) 92 (.inr (7, [.ref (gw_ad w 93), .ref (gw_ad w 94), vI (pm), .ref (gw_ad w 95), vI (tm), .ref (gw_ad w 96), vI (xm), vI (at_), .ref (gw_ad w 97), .ref (gw_ad w 98), .ref (gw_ad w 99), .ref (gw_ad w 100), .ref (gw_ad w 101), vI (0), vI (kk), vI (bz (ir)), .ref (gw_ad w 102), .ref (gw_ad w 103), .ref (gw_ad w 104)]))) 92 (.inr (7, [.ref (gw_ad w 93), .ref (gw_ad w 94), vI (pm), .ref (gw_ad w 95), vI (tm), .ref (gw_ad w 96), vI (xm), vI (0), .ref (gw_ad w 97), .ref (gw_ad w 98), .ref (gw_ad w 99), .ref (gw_ad w 100), .ref (gw_ad w 101), vI (0), vI (kk), vI (bz (ir)), .ref (gw_ad w 102), .ref (gw_ad w 103), .ref (gw_ad w 104)])))) rfl ?_
  refine g_iconst (pc := 22) hX dX7_readsRule_22 ?_
  refine g_istore_n (pc := 23) hX (lv2 := [(2, vI (1)), (0, .ref (gw_ad w 92)), (1, vI (kk))]) rfl (by decide) rfl dX7_readsRule_23 ?_
  have lo : ∀ (n0 : Nat) (at1 : Int) (wm1 : Int) (WT1 : Int → Int) (MK1 : Int → Int) (MM1 : Int → Int) (r : Int) (Slo : Nat → va_E), xm - at1 < n0 → POSTM w S pm tm xm at1 wm1 kk ir V PV TY TX MK1 MM1 CH AM WT1 WK FL PI Slo → ((0 ≤ at1 ∧ at1 ≤ xm) ∧ 0 ≤ wm1 ∧ 0 ≤ MM1 kk ∧ MM1 kk + wm1 ≤ at1) → (∀ i, inI (WT1 i)) → (FRM kk MK MM MK1 MM1) → ((r = 1 ∧ JB TX s0 kk at1 wm1 WT1 MK1 (MM1 kk)) ∨ (r = 0 ∧ JC TX s0 kk xm at1 wm1 WT1 MK1 (MM1 kk) ∧ sgV TX xm at1 ≠ 38 ∧ sgV TX xm at1 ≠ 124 ∧ (sgV TX xm at1 = 41 → nOp (wl WT1 wm1.toNat) = 0))) → G w { frames := 3, cells := 0, slots := 0, locals := 70 } X 4 24 [(0, .ref (gw_ad w 92)), (1, vI (kk)), (2, vI (r))] [] Slo := by
    intro n0
    induction n0 with
    | zero => intro at1 wm1 WT1 MK1 MM1 r Slo hzlo hQlo hb hW hF hJ; exact absurd hzlo (by omega)
    | succ n0 ihlo =>
      intro at1 wm1 WT1 MK1 MM1 r Slo hzlo hQlo hb hW hF hJ
      obtain ⟨⟨lo_92, lo_93, lo_94⟩, ⟨lo_95, lo_96⟩, ⟨lo_97, lo_98, lo_99, lo_100, lo_101⟩, ⟨lo_102, lo_103, lo_104⟩⟩ := hQlo.1
      have hr2 : r = 0 ∨ r = 1 := hJ.elim (fun h => Or.inr h.1) (fun h => Or.inl h.1)
      have hs1 := sgV_in hTX xm at1
      refine g_iload_n (pc := 24) hX 2 rfl dX7_readsRule_24 ?_
      refine g_if_eq (pc := 25) (tgt := 166) hX (inI_mk (by omega) (by omega)) dX7_readsRule_25 (by decide) (fun c_25 => ?_) (fun c_25 => ?_)
      · skip
        have hJC : JC TX s0 kk xm at1 wm1 WT1 MK1 (MM1 kk) ∧ sgV TX xm at1 ≠ 38 ∧ sgV TX xm at1 ≠ 124 ∧ (sgV TX xm at1 = 41 → nOp (wl WT1 wm1.toNat) = 0) := hJ.elim (fun h => absurd h.1 (by omega)) (fun h => h.2)
        refine g_aload_n (pc := 166) hX 0 rfl dX7_readsRule_166 ?_
        refine g_callV1 (pc := 167) (ci := 7) (As := []) (st2 := []) hX 92 (by omega) lo_92 rfl (c_X7_opens hN (show modelAt w pm tm xm at1 wm1 kk ir V PV TY TX MK1 MM1 CH AM WT1 WK FL PI Slo from ⟨⟨lo_92, lo_93, lo_94⟩, ⟨lo_95, lo_96⟩, ⟨lo_97, lo_98, lo_99, lo_100, lo_101⟩, ⟨lo_102, lo_103, lo_104⟩⟩) ⟨hb.2.1, by omega⟩ hW) gX7_readsRule_X7_opens (n := 0) (hw := rfl) (hrc := rfl) (hrs := rfl) (hd := by decide +kernel) (hR := ⟨Nat.le_of_ble_eq_true rfl, Nat.le_of_ble_eq_true rfl⟩) (hn := rfl) (hst := rfl) (hsum := Nat.le_of_ble_eq_true rfl) (hdg := dX7_readsRule_167) ?_
        rintro _ S9 ⟨rfl, e9⟩
        rw [e9]
        clear e9 S9
        refine g_at (pc2 := 170) rfl rfl (st2 := [vI (opN_ WT1 (wm1).toNat)]) rfl (S2 := Slo) rfl ?_
        refine g_if_gt (pc := 170) (tgt := 182) hX (inI_mk (by have := opN_r WT1 wm1.toNat; omega) (by have := opN_r WT1 wm1.toNat; omega)) dX7_readsRule_170 (by decide) (fun c_170 => ?_) (fun c_170 => ?_)
        · skip
          refine g_iconst (pc := 182) hX dX7_readsRule_182 ?_
          refine g_at rfl rfl (st2 := [vI (bz false)]) rfl rfl ?_
          refine g_zret (pc := 183) hX hR dX7_readsRule_183 ?_
          exact ⟨_, _, _, _, _, _, _, ⟨⟨⟨lo_92, lo_93, lo_94⟩, ⟨lo_95, lo_96⟩, ⟨lo_97, lo_98, lo_99, lo_100, lo_101⟩, ⟨lo_102, lo_103, lo_104⟩⟩, fun q hq => ((hQlo.2 q hq).trans rfl)⟩, hb.1, hW, hF, ⟨by omega, by omega⟩, fun j _ => ⟨rfl, rfl⟩, Or.inr ⟨rfl, JC_stop hJC.1 (by omega) hxm.2 hJC.2.1 hJC.2.2.1 hJC.2.2.2 (fun z => by rw [← opN_wl]; omega)⟩⟩
        · skip
          refine g_aload_n (pc := 173) hX 0 rfl dX7_readsRule_173 ?_
          refine g_callV1 (pc := 174) (ci := 7) (As := []) (st2 := []) hX 92 (by omega) lo_92 rfl (c_X7_sign hN (show modelAt w pm tm xm at1 wm1 kk ir V PV TY TX MK1 MM1 CH AM WT1 WK FL PI Slo from ⟨⟨lo_92, lo_93, lo_94⟩, ⟨lo_95, lo_96⟩, ⟨lo_97, lo_98, lo_99, lo_100, lo_101⟩, ⟨lo_102, lo_103, lo_104⟩⟩) hxm (by omega) hTX) gX7_readsRule_X7_sign (n := 0) (hw := rfl) (hrc := rfl) (hrs := rfl) (hd := by decide +kernel) (hR := ⟨Nat.le_of_ble_eq_true rfl, Nat.le_of_ble_eq_true rfl⟩) (hn := rfl) (hst := rfl) (hsum := Nat.le_of_ble_eq_true rfl) (hdg := dX7_readsRule_174) ?_
          rintro _ S9 ⟨rfl, e9⟩
          rw [e9]
          clear e9 S9
          refine g_at (pc2 := 177) rfl rfl (st2 := [vI (sgV TX xm at1)]) rfl (S2 := Slo) rfl ?_
          refine g_bipush (pc := 177) hX (by decide) dX7_readsRule_177 ?_
          refine g_icmp_eq (pc := 179) (tgt := 184) hX hs1 (by first | assumption | exact inI_mk (by omega) (by omega)) dX7_readsRule_179 (by decide) (fun c_179 => ?_) (fun c_179 => ?_)
          · skip
            have hlt0 : at1 < xm := sgV_lt (TX := TX) (by omega)
            have hcx0 : TX at1 = 63 := by rw [← sgV_e (TX := TX) hlt0]; omega
            refine g_aload_n (pc := 184) hX 0 rfl dX7_readsRule_184 ?_
            refine g_iconst (pc := 185) hX dX7_readsRule_185 ?_
            refine g_callV0 (pc := 186) (ci := 7) (As := [vI (2)]) (st2 := []) hX 92 (by omega) lo_92 rfl (c_X7_settles hN (show modelAt w pm tm xm at1 wm1 kk ir V PV TY TX MK1 MM1 CH AM WT1 WK FL PI Slo from ⟨⟨lo_92, lo_93, lo_94⟩, ⟨lo_95, lo_96⟩, ⟨lo_97, lo_98, lo_99, lo_100, lo_101⟩, ⟨lo_102, lo_103, lo_104⟩⟩) hwh ⟨hb.2.2.1, hb.2.1, by omega⟩ hW (dd := 2) (by decide)) gX7_readsRule_X7_settles (n := 1) (hw := rfl) (hrc := rfl) (hrs := rfl) (hd := by decide +kernel) (hR := ⟨Nat.le_of_ble_eq_true rfl, Nat.le_of_ble_eq_true rfl⟩) (hn := rfl) (hst := rfl) (hsum := Nat.le_of_ble_eq_true rfl) (hdg := dX7_readsRule_186) ?_
            rintro S186 ⟨c186, hc186, hj186, hs186, hP186⟩
            obtain ⟨⟨m186_92, m186_93, m186_94⟩, ⟨m186_95, m186_96⟩, ⟨m186_97, m186_98, m186_99, m186_100, m186_101⟩, ⟨m186_102, m186_103, m186_104⟩⟩ := hP186.1
            refine g_at (pc2 := 189) rfl rfl (st2 := []) rfl (S2 := S186) rfl ?_
            obtain ⟨s2, hR2, hq4, hq0, hM2⟩ := JC_end hJC.1 hlt0 hxm.2 hb.2.2.1 hb.2.1 hcx0 (by rw [← opN_wl]; have := opN_r WT1 wm1.toNat; omega) hc186 hj186 hs186
            have hs3 := sgV_in hTX xm (at1 + 1)
            refine g_aload_n (pc := 189) hX 0 rfl dX7_readsRule_189 ?_
            refine g_dup (pc := 190) hX rfl dX7_readsRule_190 ?_
            refine g_get (pc := 191) hX (ci := 7) (fun _ h => List.mem_cons_of_mem _ (List.mem_append_right _ h)) rfl 92 (by omega) m186_92 7 (by decide) (List.mem_of_getElem? (i := 4) rfl) rfl (v := vI (at1)) rfl dX7_readsRule_191 ?_
            refine g_iconst (pc := 194) hX dX7_readsRule_194 ?_
            refine g_iadd (pc := 195) hX dX7_readsRule_195 ?_
            refine g_put (pc := 196) hX (ci := 7) (fun _ h => List.mem_cons_of_mem _ (List.mem_append_right _ h)) rfl tyX7 tyX7_ok nmX7 92 (by omega) m186_92 7 (by decide) (List.mem_of_getElem? (i := 4) rfl) rfl rfl (tyX7_ok 7 (by decide)) rfl (fit_int _) (Nat.le_of_ble_eq_true rfl) dX7_readsRule_196 ?_
            refine g_at rfl rfl rfl (S2 := (va_up S186 92 (.inr (7, [.ref (gw_ad w 93), .ref (gw_ad w 94), vI (pm), .ref (gw_ad w 95), vI (tm), .ref (gw_ad w 96), vI (xm), vI (at1 + 1), .ref (gw_ad w 97), .ref (gw_ad w 98), .ref (gw_ad w 99), .ref (gw_ad w 100), .ref (gw_ad w 101), vI (wm1 - c186), vI (kk), vI (bz (ir)), .ref (gw_ad w 102), .ref (gw_ad w 103), .ref (gw_ad w 104)])))) rfl ?_
            refine g_aload_n (pc := 199) hX 0 rfl dX7_readsRule_199 ?_
            refine g_get (pc := 200) hX (ci := 7) (fun _ h => List.mem_cons_of_mem _ (List.mem_append_right _ h)) rfl 92 (by omega) (up_eq _ _ _) 10 (by decide) (List.mem_of_getElem? (i := 6) rfl) rfl (v := .ref (gw_ad w 99)) rfl dX7_readsRule_200 ?_
            refine g_iload_n (pc := 203) hX 1 rfl dX7_readsRule_203 ?_
            refine g_aload_n (pc := 204) hX 0 rfl dX7_readsRule_204 ?_
            refine g_callV1 (pc := 205) (ci := 7) (As := []) (st2 := [vI (kk), .ref (gw_ad w 99)]) hX 92 (by omega) (up_eq _ _ _) rfl (c_X7_sign hN (show modelAt w pm tm xm (at1 + 1) (wm1 - c186) kk ir V PV TY TX (jnK MK1 WT1 kk (MM1 kk) wm1 c186.toNat) (updZ MM1 kk (MM1 kk + c186)) CH AM WT1 WK FL PI (va_up S186 92 (.inr (7, [.ref (gw_ad w 93), .ref (gw_ad w 94), vI (pm), .ref (gw_ad w 95), vI (tm), .ref (gw_ad w 96), vI (xm), vI (at1 + 1), .ref (gw_ad w 97), .ref (gw_ad w 98), .ref (gw_ad w 99), .ref (gw_ad w 100), .ref (gw_ad w 101), vI (wm1 - c186), vI (kk), vI (bz (ir)), .ref (gw_ad w 102), .ref (gw_ad w 103), .ref (gw_ad w 104)]))) from ⟨⟨(up_eq _ _ _), (up_ne (by decide) m186_93), (up_ne (by decide) m186_94)⟩, ⟨(up_ne (by decide) m186_95), (up_ne (by decide) m186_96)⟩, ⟨(up_ne (by decide) m186_97), (up_ne (by decide) m186_98), (up_ne (by decide) m186_99), (up_ne (by decide) m186_100), (up_ne (by decide) m186_101)⟩, ⟨(up_ne (by decide) m186_102), (up_ne (by decide) m186_103), (up_ne (by decide) m186_104)⟩⟩) hxm (by omega) hTX) gX7_readsRule_X7_sign (n := 0) (hw := rfl) (hrc := rfl) (hrs := rfl) (hd := by decide +kernel) (hR := ⟨Nat.le_of_ble_eq_true rfl, Nat.le_of_ble_eq_true rfl⟩) (hn := rfl) (hst := rfl) (hsum := Nat.le_of_ble_eq_true rfl) (hdg := dX7_readsRule_205) ?_
            rintro _ S9 ⟨rfl, e9⟩
            rw [e9]
            clear e9 S9
            refine g_at (pc2 := 208) rfl rfl (st2 := [vI (sgV TX xm (at1 + 1)), vI (kk), .ref (gw_ad w 99)]) rfl (S2 := (va_up S186 92 (.inr (7, [.ref (gw_ad w 93), .ref (gw_ad w 94), vI (pm), .ref (gw_ad w 95), vI (tm), .ref (gw_ad w 96), vI (xm), vI (at1 + 1), .ref (gw_ad w 97), .ref (gw_ad w 98), .ref (gw_ad w 99), .ref (gw_ad w 100), .ref (gw_ad w 101), vI (wm1 - c186), vI (kk), vI (bz (ir)), .ref (gw_ad w 102), .ref (gw_ad w 103), .ref (gw_ad w 104)])))) rfl ?_
            refine g_iast (pc := 208) hX 99 (by omega) (up_ne (by decide) m186_99) (by omega) (by omega) (by decide) dX7_readsRule_208 ?_
            refine g_at rfl rfl rfl (S2 := (va_up (va_up S186 92 (.inr (7, [.ref (gw_ad w 93), .ref (gw_ad w 94), vI (pm), .ref (gw_ad w 95), vI (tm), .ref (gw_ad w 96), vI (xm), vI (at1 + 1), .ref (gw_ad w 97), .ref (gw_ad w 98), .ref (gw_ad w 99), .ref (gw_ad w 100), .ref (gw_ad w 101), vI (wm1 - c186), vI (kk), vI (bz (ir)), .ref (gw_ad w 102), .ref (gw_ad w 103), .ref (gw_ad w 104)]))) 99 (AI w 8 (updZ (CH) (kk) (sgV TX xm (at1 + 1)))))) rfl ?_
            refine g_aload_n (pc := 209) hX 0 rfl dX7_readsRule_209 ?_
            refine g_get (pc := 210) hX (ci := 7) (fun _ h => List.mem_cons_of_mem _ (List.mem_append_right _ h)) rfl 92 (by omega) (up_ne (by decide) (up_eq _ _ _)) 10 (by decide) (List.mem_of_getElem? (i := 6) rfl) rfl (v := .ref (gw_ad w 99)) rfl dX7_readsRule_210 ?_
            refine g_iload_n (pc := 213) hX 1 rfl dX7_readsRule_213 ?_
            refine g_iald (pc := 214) hX 99 (by omega) (up_eq _ _ _) (by omega) (by omega) (by decide) dX7_readsRule_214 ?_
            refine g_at rfl rfl (st2 := [vI (sgV TX xm (at1 + 1))]) (by rw [show (updZ (CH) (kk) (sgV TX xm (at1 + 1))) kk = sgV TX xm (at1 + 1) from updZ_eq _ _ _]) rfl ?_
            refine g_bipush (pc := 215) hX (by decide) dX7_readsRule_215 ?_
            refine g_icmp_eq (pc := 217) (tgt := 244) hX hs3 (by first | assumption | exact inI_mk (by omega) (by omega)) dX7_readsRule_217 (by decide) (fun c_217 => ?_) (fun c_217 => ?_)
            · skip
              have hlt1 : at1 + 1 < xm := sgV_lt (TX := TX) (by omega)
              refine g_aload_n (pc := 244) hX 0 rfl dX7_readsRule_244 ?_
              refine g_dup (pc := 245) hX rfl dX7_readsRule_245 ?_
              refine g_get (pc := 246) hX (ci := 7) (fun _ h => List.mem_cons_of_mem _ (List.mem_append_right _ h)) rfl 92 (by omega) (up_ne (by decide) (up_eq _ _ _)) 7 (by decide) (List.mem_of_getElem? (i := 4) rfl) rfl (v := vI (at1 + 1)) rfl dX7_readsRule_246 ?_
              refine g_iconst (pc := 249) hX dX7_readsRule_249 ?_
              refine g_iadd (pc := 250) hX dX7_readsRule_250 ?_
              refine g_put (pc := 251) hX (ci := 7) (fun _ h => List.mem_cons_of_mem _ (List.mem_append_right _ h)) rfl tyX7 tyX7_ok nmX7 92 (by omega) (up_ne (by decide) (up_eq _ _ _)) 7 (by decide) (List.mem_of_getElem? (i := 4) rfl) rfl rfl (tyX7_ok 7 (by decide)) rfl (fit_int _) (Nat.le_of_ble_eq_true rfl) dX7_readsRule_251 ?_
              refine g_at rfl rfl rfl (S2 := (va_up (va_up (va_up S186 92 (.inr (7, [.ref (gw_ad w 93), .ref (gw_ad w 94), vI (pm), .ref (gw_ad w 95), vI (tm), .ref (gw_ad w 96), vI (xm), vI (at1 + 1), .ref (gw_ad w 97), .ref (gw_ad w 98), .ref (gw_ad w 99), .ref (gw_ad w 100), .ref (gw_ad w 101), vI (wm1 - c186), vI (kk), vI (bz (ir)), .ref (gw_ad w 102), .ref (gw_ad w 103), .ref (gw_ad w 104)]))) 99 (AI w 8 (updZ (CH) (kk) (sgV TX xm (at1 + 1))))) 92 (.inr (7, [.ref (gw_ad w 93), .ref (gw_ad w 94), vI (pm), .ref (gw_ad w 95), vI (tm), .ref (gw_ad w 96), vI (xm), vI ((at1 + 1) + 1), .ref (gw_ad w 97), .ref (gw_ad w 98), .ref (gw_ad w 99), .ref (gw_ad w 100), .ref (gw_ad w 101), vI (wm1 - c186), vI (kk), vI (bz (ir)), .ref (gw_ad w 102), .ref (gw_ad w 103), .ref (gw_ad w 104)])))) rfl ?_
              refine g_aload_n (pc := 254) hX 0 rfl dX7_readsRule_254 ?_
              refine g_get (pc := 255) hX (ci := 7) (fun _ h => List.mem_cons_of_mem _ (List.mem_append_right _ h)) rfl 92 (by omega) (up_eq _ _ _) 11 (by decide) (List.mem_of_getElem? (i := 7) rfl) rfl (v := .ref (gw_ad w 100)) rfl dX7_readsRule_255 ?_
              refine g_iload_n (pc := 258) hX 1 rfl dX7_readsRule_258 ?_
              refine g_aload_n (pc := 259) hX 0 rfl dX7_readsRule_259 ?_
              refine g_callV1 (pc := 260) (ci := 7) (As := []) (st2 := [vI (kk), .ref (gw_ad w 100)]) hX 92 (by omega) (up_eq _ _ _) rfl (c_X7_number hN (show modelAt w pm tm xm ((at1 + 1) + 1) (wm1 - c186) kk ir V PV TY TX (jnK MK1 WT1 kk (MM1 kk) wm1 c186.toNat) (updZ MM1 kk (MM1 kk + c186)) (updZ (CH) (kk) (sgV TX xm (at1 + 1))) AM WT1 WK FL PI (va_up (va_up (va_up S186 92 (.inr (7, [.ref (gw_ad w 93), .ref (gw_ad w 94), vI (pm), .ref (gw_ad w 95), vI (tm), .ref (gw_ad w 96), vI (xm), vI (at1 + 1), .ref (gw_ad w 97), .ref (gw_ad w 98), .ref (gw_ad w 99), .ref (gw_ad w 100), .ref (gw_ad w 101), vI (wm1 - c186), vI (kk), vI (bz (ir)), .ref (gw_ad w 102), .ref (gw_ad w 103), .ref (gw_ad w 104)]))) 99 (AI w 8 (updZ (CH) (kk) (sgV TX xm (at1 + 1))))) 92 (.inr (7, [.ref (gw_ad w 93), .ref (gw_ad w 94), vI (pm), .ref (gw_ad w 95), vI (tm), .ref (gw_ad w 96), vI (xm), vI ((at1 + 1) + 1), .ref (gw_ad w 97), .ref (gw_ad w 98), .ref (gw_ad w 99), .ref (gw_ad w 100), .ref (gw_ad w 101), vI (wm1 - c186), vI (kk), vI (bz (ir)), .ref (gw_ad w 102), .ref (gw_ad w 103), .ref (gw_ad w 104)]))) from ⟨⟨(up_eq _ _ _), (up_ne (by decide) (up_ne (by decide) (up_ne (by decide) m186_93))), (up_ne (by decide) (up_ne (by decide) (up_ne (by decide) m186_94)))⟩, ⟨(up_ne (by decide) (up_ne (by decide) (up_ne (by decide) m186_95))), (up_ne (by decide) (up_ne (by decide) (up_ne (by decide) m186_96)))⟩, ⟨(up_ne (by decide) (up_ne (by decide) (up_ne (by decide) m186_97))), (up_ne (by decide) (up_ne (by decide) (up_ne (by decide) m186_98))), (up_ne (by decide) (up_eq _ _ _)), (up_ne (by decide) (up_ne (by decide) (up_ne (by decide) m186_100))), (up_ne (by decide) (up_ne (by decide) (up_ne (by decide) m186_101)))⟩, ⟨(up_ne (by decide) (up_ne (by decide) (up_ne (by decide) m186_102))), (up_ne (by decide) (up_ne (by decide) (up_ne (by decide) m186_103))), (up_ne (by decide) (up_ne (by decide) (up_ne (by decide) m186_104)))⟩⟩) hxm (by omega) hTX) gX7_readsRule_X7_number (n := 0) (hw := rfl) (hrc := rfl) (hrs := rfl) (hd := by decide +kernel) (hR := ⟨Nat.le_of_ble_eq_true rfl, Nat.le_of_ble_eq_true rfl⟩) (hn := rfl) (hst := rfl) (hsum := Nat.le_of_ble_eq_true rfl) (hdg := dX7_readsRule_260) ?_
              rintro _ S260 ⟨e260, he260, hd260, hq260, rfl, hP260⟩
              obtain ⟨⟨m260_92, m260_93, m260_94⟩, ⟨m260_95, m260_96⟩, ⟨m260_97, m260_98, m260_99, m260_100, m260_101⟩, ⟨m260_102, m260_103, m260_104⟩⟩ := hP260.1
              have hnb260 := nuB he260 hd260
              refine g_at (pc2 := 263) rfl rfl (st2 := [vI ((if e260 = 0 then -1 else dgX TX ((at1 + 1) + 1) e260.toNat)), vI (kk), .ref (gw_ad w 100)]) rfl (S2 := S260) rfl ?_
              refine g_iast (pc := 263) hX 100 (by omega) m260_100 (by omega) (by omega) (by decide) dX7_readsRule_263 ?_
              refine g_at rfl rfl rfl (S2 := (va_up S260 100 (AI w 8 (updZ (AM) (kk) ((if e260 = 0 then -1 else dgX TX ((at1 + 1) + 1) e260.toNat)))))) rfl ?_
              refine g_aload_n (pc := 264) hX 0 rfl dX7_readsRule_264 ?_
              refine g_get (pc := 265) hX (ci := 7) (fun _ h => List.mem_cons_of_mem _ (List.mem_append_right _ h)) rfl 92 (by omega) (up_ne (by decide) m260_92) 11 (by decide) (List.mem_of_getElem? (i := 7) rfl) rfl (v := .ref (gw_ad w 100)) rfl dX7_readsRule_265 ?_
              refine g_iload_n (pc := 268) hX 1 rfl dX7_readsRule_268 ?_
              refine g_iald (pc := 269) hX 100 (by omega) (up_eq _ _ _) (by omega) (by omega) (by decide) dX7_readsRule_269 ?_
              refine g_at rfl rfl (st2 := [vI ((if e260 = 0 then -1 else dgX TX (at1 + 1 + 1) e260.toNat))]) (by rw [show (updZ (AM) (kk) ((if e260 = 0 then -1 else dgX TX ((at1 + 1) + 1) e260.toNat))) kk = (if e260 = 0 then -1 else dgX TX (at1 + 1 + 1) e260.toNat) from updZ_eq _ _ _]) rfl ?_
              refine g_if_lt (pc := 270) (tgt := 288) hX (inI_mk (by omega) (by omega)) dX7_readsRule_270 (by decide) (fun c_270 => ?_) (fun c_270 => ?_)
              · skip
                refine g_iconst (pc := 288) hX dX7_readsRule_288 ?_
                refine g_at rfl rfl (st2 := [vI (bz false)]) rfl rfl ?_
                refine g_zret (pc := 289) hX hR dX7_readsRule_289 ?_
                have hle : at1 + 1 + 1 + e260 ≤ xm := by
                  by_cases h : e260 = 0
                  · omega
                  · have := (hd260 (e260 - 1) (by omega) (by omega)).1; omega
                have hE := E_num hR2 hq4 hq0.1 hlt1 (by omega) hM2 he260 hd260 hq260 hle
                exact ⟨_, _, _, _, _, _, _, ⟨⟨⟨(up_ne (by decide) m260_92), (up_ne (by decide) m260_93), (up_ne (by decide) m260_94)⟩, ⟨(up_ne (by decide) m260_95), (up_ne (by decide) m260_96)⟩, ⟨(up_ne (by decide) m260_97), (up_ne (by decide) m260_98), (up_ne (by decide) m260_99), (up_eq _ _ _), (up_ne (by decide) m260_101)⟩, ⟨(up_ne (by decide) m260_102), (up_ne (by decide) m260_103), (up_ne (by decide) m260_104)⟩⟩, fun q hq => (up_ne (by omega) ((hP260.2 q hq).trans (up_ne (by omega) (up_ne (by omega) (up_ne (by omega) ((hP186.2 q hq).trans ((hQlo.2 q hq).trans rfl)))))))⟩, ⟨by omega, by omega⟩, hW, hF.jn (by omega), ⟨by rw [updZ_eq]; omega, by rw [updZ_eq]; omega⟩, fun j hj => ⟨updZ_ne _ _ hj, updZ_ne _ _ hj⟩, Or.inr ⟨rfl, hE.2 (fun z => by have := hnb260.2.2 z.1; omega)⟩⟩
              · skip
                refine g_aload_n (pc := 273) hX 0 rfl dX7_readsRule_273 ?_
                refine g_get (pc := 274) hX (ci := 7) (fun _ h => List.mem_cons_of_mem _ (List.mem_append_right _ h)) rfl 92 (by omega) (up_ne (by decide) m260_92) 7 (by decide) (List.mem_of_getElem? (i := 4) rfl) rfl (v := vI ((at1 + 1) + 1 + e260)) rfl dX7_readsRule_274 ?_
                refine g_aload_n (pc := 277) hX 0 rfl dX7_readsRule_277 ?_
                refine g_get (pc := 278) hX (ci := 7) (fun _ h => List.mem_cons_of_mem _ (List.mem_append_right _ h)) rfl 92 (by omega) (up_ne (by decide) m260_92) 6 (by decide) (List.mem_of_getElem? (i := 8) rfl) rfl (v := vI (xm)) rfl dX7_readsRule_278 ?_
                refine g_icmp_ne (pc := 281) (tgt := 288) hX (by first | assumption | exact inI_mk (by omega) (by omega)) (by first | assumption | exact inI_mk (by omega) (by omega)) dX7_readsRule_281 (by decide) (fun c_281 => ?_) (fun c_281 => ?_)
                · skip
                  refine g_iconst (pc := 288) hX dX7_readsRule_288 ?_
                  refine g_at rfl rfl (st2 := [vI (bz false)]) rfl rfl ?_
                  refine g_zret (pc := 289) hX hR dX7_readsRule_289 ?_
                  have hle : at1 + 1 + 1 + e260 ≤ xm := by
                    by_cases h : e260 = 0
                    · omega
                    · have := (hd260 (e260 - 1) (by omega) (by omega)).1; omega
                  have hE := E_num hR2 hq4 hq0.1 hlt1 (by omega) hM2 he260 hd260 hq260 hle
                  exact ⟨_, _, _, _, _, _, _, ⟨⟨⟨(up_ne (by decide) m260_92), (up_ne (by decide) m260_93), (up_ne (by decide) m260_94)⟩, ⟨(up_ne (by decide) m260_95), (up_ne (by decide) m260_96)⟩, ⟨(up_ne (by decide) m260_97), (up_ne (by decide) m260_98), (up_ne (by decide) m260_99), (up_eq _ _ _), (up_ne (by decide) m260_101)⟩, ⟨(up_ne (by decide) m260_102), (up_ne (by decide) m260_103), (up_ne (by decide) m260_104)⟩⟩, fun q hq => (up_ne (by omega) ((hP260.2 q hq).trans (up_ne (by omega) (up_ne (by omega) (up_ne (by omega) ((hP186.2 q hq).trans ((hQlo.2 q hq).trans rfl)))))))⟩, ⟨by omega, by omega⟩, hW, hF.jn (by omega), ⟨by rw [updZ_eq]; omega, by rw [updZ_eq]; omega⟩, fun j hj => ⟨updZ_ne _ _ hj, updZ_ne _ _ hj⟩, Or.inr ⟨rfl, hE.2 (fun z => by have := hnb260.2.2 z.1; omega)⟩⟩
                · skip
                  refine g_iconst (pc := 284) hX dX7_readsRule_284 ?_
                  refine g_goto (pc := 285) (tgt := 289) hX dX7_readsRule_285 (by decide) ?_
                  refine g_at rfl rfl (st2 := [vI (bz true)]) rfl rfl ?_
                  refine g_zret (pc := 289) hX hR dX7_readsRule_289 ?_
                  have hle : at1 + 1 + 1 + e260 ≤ xm := by
                    by_cases h : e260 = 0
                    · omega
                    · have := (hd260 (e260 - 1) (by omega) (by omega)).1; omega
                  have hE := E_num hR2 hq4 hq0.1 hlt1 (by omega) hM2 he260 hd260 hq260 hle
                  have hne : ¬ e260 = 0 := by intro h; rw [if_pos h] at c_270; omega
                  exact ⟨_, _, _, _, _, _, _, ⟨⟨⟨(up_ne (by decide) m260_92), (up_ne (by decide) m260_93), (up_ne (by decide) m260_94)⟩, ⟨(up_ne (by decide) m260_95), (up_ne (by decide) m260_96)⟩, ⟨(up_ne (by decide) m260_97), (up_ne (by decide) m260_98), (up_ne (by decide) m260_99), (up_eq _ _ _), (up_ne (by decide) m260_101)⟩, ⟨(up_ne (by decide) m260_102), (up_ne (by decide) m260_103), (up_ne (by decide) m260_104)⟩⟩, fun q hq => (up_ne (by omega) ((hP260.2 q hq).trans (up_ne (by omega) (up_ne (by omega) (up_ne (by omega) ((hP186.2 q hq).trans ((hQlo.2 q hq).trans rfl)))))))⟩, ⟨by omega, by omega⟩, hW, hF.jn (by omega), ⟨by rw [updZ_eq]; omega, by rw [updZ_eq]; omega⟩, fun j hj => ⟨updZ_ne _ _ hj, updZ_ne _ _ hj⟩, Or.inl ⟨rfl, by omega, by simp only [updZ_eq]; rw [if_neg hne]; exact hE.1 ⟨by omega, by omega⟩⟩⟩
            · skip
              refine g_aload_n (pc := 220) hX 0 rfl dX7_readsRule_220 ?_
              refine g_get (pc := 221) hX (ci := 7) (fun _ h => List.mem_cons_of_mem _ (List.mem_append_right _ h)) rfl 92 (by omega) (up_ne (by decide) (up_eq _ _ _)) 10 (by decide) (List.mem_of_getElem? (i := 6) rfl) rfl (v := .ref (gw_ad w 99)) rfl dX7_readsRule_221 ?_
              refine g_iload_n (pc := 224) hX 1 rfl dX7_readsRule_224 ?_
              refine g_iald (pc := 225) hX 99 (by omega) (up_eq _ _ _) (by omega) (by omega) (by decide) dX7_readsRule_225 ?_
              refine g_at rfl rfl (st2 := [vI (sgV TX xm (at1 + 1))]) (by rw [show (updZ (CH) (kk) (sgV TX xm (at1 + 1))) kk = sgV TX xm (at1 + 1) from updZ_eq _ _ _]) rfl ?_
              refine g_bipush (pc := 226) hX (by decide) dX7_readsRule_226 ?_
              refine g_icmp_eq (pc := 228) (tgt := 244) hX hs3 (by first | assumption | exact inI_mk (by omega) (by omega)) dX7_readsRule_228 (by decide) (fun c_228 => ?_) (fun c_228 => ?_)
              · skip
                have hlt1 : at1 + 1 < xm := sgV_lt (TX := TX) (by omega)
                refine g_aload_n (pc := 244) hX 0 rfl dX7_readsRule_244 ?_
                refine g_dup (pc := 245) hX rfl dX7_readsRule_245 ?_
                refine g_get (pc := 246) hX (ci := 7) (fun _ h => List.mem_cons_of_mem _ (List.mem_append_right _ h)) rfl 92 (by omega) (up_ne (by decide) (up_eq _ _ _)) 7 (by decide) (List.mem_of_getElem? (i := 4) rfl) rfl (v := vI (at1 + 1)) rfl dX7_readsRule_246 ?_
                refine g_iconst (pc := 249) hX dX7_readsRule_249 ?_
                refine g_iadd (pc := 250) hX dX7_readsRule_250 ?_
                refine g_put (pc := 251) hX (ci := 7) (fun _ h => List.mem_cons_of_mem _ (List.mem_append_right _ h)) rfl tyX7 tyX7_ok nmX7 92 (by omega) (up_ne (by decide) (up_eq _ _ _)) 7 (by decide) (List.mem_of_getElem? (i := 4) rfl) rfl rfl (tyX7_ok 7 (by decide)) rfl (fit_int _) (Nat.le_of_ble_eq_true rfl) dX7_readsRule_251 ?_
                refine g_at rfl rfl rfl (S2 := (va_up (va_up (va_up S186 92 (.inr (7, [.ref (gw_ad w 93), .ref (gw_ad w 94), vI (pm), .ref (gw_ad w 95), vI (tm), .ref (gw_ad w 96), vI (xm), vI (at1 + 1), .ref (gw_ad w 97), .ref (gw_ad w 98), .ref (gw_ad w 99), .ref (gw_ad w 100), .ref (gw_ad w 101), vI (wm1 - c186), vI (kk), vI (bz (ir)), .ref (gw_ad w 102), .ref (gw_ad w 103), .ref (gw_ad w 104)]))) 99 (AI w 8 (updZ (CH) (kk) (sgV TX xm (at1 + 1))))) 92 (.inr (7, [.ref (gw_ad w 93), .ref (gw_ad w 94), vI (pm), .ref (gw_ad w 95), vI (tm), .ref (gw_ad w 96), vI (xm), vI ((at1 + 1) + 1), .ref (gw_ad w 97), .ref (gw_ad w 98), .ref (gw_ad w 99), .ref (gw_ad w 100), .ref (gw_ad w 101), vI (wm1 - c186), vI (kk), vI (bz (ir)), .ref (gw_ad w 102), .ref (gw_ad w 103), .ref (gw_ad w 104)])))) rfl ?_
                refine g_aload_n (pc := 254) hX 0 rfl dX7_readsRule_254 ?_
                refine g_get (pc := 255) hX (ci := 7) (fun _ h => List.mem_cons_of_mem _ (List.mem_append_right _ h)) rfl 92 (by omega) (up_eq _ _ _) 11 (by decide) (List.mem_of_getElem? (i := 7) rfl) rfl (v := .ref (gw_ad w 100)) rfl dX7_readsRule_255 ?_
                refine g_iload_n (pc := 258) hX 1 rfl dX7_readsRule_258 ?_
                refine g_aload_n (pc := 259) hX 0 rfl dX7_readsRule_259 ?_
                refine g_callV1 (pc := 260) (ci := 7) (As := []) (st2 := [vI (kk), .ref (gw_ad w 100)]) hX 92 (by omega) (up_eq _ _ _) rfl (c_X7_number hN (show modelAt w pm tm xm ((at1 + 1) + 1) (wm1 - c186) kk ir V PV TY TX (jnK MK1 WT1 kk (MM1 kk) wm1 c186.toNat) (updZ MM1 kk (MM1 kk + c186)) (updZ (CH) (kk) (sgV TX xm (at1 + 1))) AM WT1 WK FL PI (va_up (va_up (va_up S186 92 (.inr (7, [.ref (gw_ad w 93), .ref (gw_ad w 94), vI (pm), .ref (gw_ad w 95), vI (tm), .ref (gw_ad w 96), vI (xm), vI (at1 + 1), .ref (gw_ad w 97), .ref (gw_ad w 98), .ref (gw_ad w 99), .ref (gw_ad w 100), .ref (gw_ad w 101), vI (wm1 - c186), vI (kk), vI (bz (ir)), .ref (gw_ad w 102), .ref (gw_ad w 103), .ref (gw_ad w 104)]))) 99 (AI w 8 (updZ (CH) (kk) (sgV TX xm (at1 + 1))))) 92 (.inr (7, [.ref (gw_ad w 93), .ref (gw_ad w 94), vI (pm), .ref (gw_ad w 95), vI (tm), .ref (gw_ad w 96), vI (xm), vI ((at1 + 1) + 1), .ref (gw_ad w 97), .ref (gw_ad w 98), .ref (gw_ad w 99), .ref (gw_ad w 100), .ref (gw_ad w 101), vI (wm1 - c186), vI (kk), vI (bz (ir)), .ref (gw_ad w 102), .ref (gw_ad w 103), .ref (gw_ad w 104)]))) from ⟨⟨(up_eq _ _ _), (up_ne (by decide) (up_ne (by decide) (up_ne (by decide) m186_93))), (up_ne (by decide) (up_ne (by decide) (up_ne (by decide) m186_94)))⟩, ⟨(up_ne (by decide) (up_ne (by decide) (up_ne (by decide) m186_95))), (up_ne (by decide) (up_ne (by decide) (up_ne (by decide) m186_96)))⟩, ⟨(up_ne (by decide) (up_ne (by decide) (up_ne (by decide) m186_97))), (up_ne (by decide) (up_ne (by decide) (up_ne (by decide) m186_98))), (up_ne (by decide) (up_eq _ _ _)), (up_ne (by decide) (up_ne (by decide) (up_ne (by decide) m186_100))), (up_ne (by decide) (up_ne (by decide) (up_ne (by decide) m186_101)))⟩, ⟨(up_ne (by decide) (up_ne (by decide) (up_ne (by decide) m186_102))), (up_ne (by decide) (up_ne (by decide) (up_ne (by decide) m186_103))), (up_ne (by decide) (up_ne (by decide) (up_ne (by decide) m186_104)))⟩⟩) hxm (by omega) hTX) gX7_readsRule_X7_number (n := 0) (hw := rfl) (hrc := rfl) (hrs := rfl) (hd := by decide +kernel) (hR := ⟨Nat.le_of_ble_eq_true rfl, Nat.le_of_ble_eq_true rfl⟩) (hn := rfl) (hst := rfl) (hsum := Nat.le_of_ble_eq_true rfl) (hdg := dX7_readsRule_260) ?_
                rintro _ S260 ⟨e260, he260, hd260, hq260, rfl, hP260⟩
                obtain ⟨⟨m260_92, m260_93, m260_94⟩, ⟨m260_95, m260_96⟩, ⟨m260_97, m260_98, m260_99, m260_100, m260_101⟩, ⟨m260_102, m260_103, m260_104⟩⟩ := hP260.1
                have hnb260 := nuB he260 hd260
                refine g_at (pc2 := 263) rfl rfl (st2 := [vI ((if e260 = 0 then -1 else dgX TX ((at1 + 1) + 1) e260.toNat)), vI (kk), .ref (gw_ad w 100)]) rfl (S2 := S260) rfl ?_
                refine g_iast (pc := 263) hX 100 (by omega) m260_100 (by omega) (by omega) (by decide) dX7_readsRule_263 ?_
                refine g_at rfl rfl rfl (S2 := (va_up S260 100 (AI w 8 (updZ (AM) (kk) ((if e260 = 0 then -1 else dgX TX ((at1 + 1) + 1) e260.toNat)))))) rfl ?_
                refine g_aload_n (pc := 264) hX 0 rfl dX7_readsRule_264 ?_
                refine g_get (pc := 265) hX (ci := 7) (fun _ h => List.mem_cons_of_mem _ (List.mem_append_right _ h)) rfl 92 (by omega) (up_ne (by decide) m260_92) 11 (by decide) (List.mem_of_getElem? (i := 7) rfl) rfl (v := .ref (gw_ad w 100)) rfl dX7_readsRule_265 ?_
                refine g_iload_n (pc := 268) hX 1 rfl dX7_readsRule_268 ?_
                refine g_iald (pc := 269) hX 100 (by omega) (up_eq _ _ _) (by omega) (by omega) (by decide) dX7_readsRule_269 ?_
                refine g_at rfl rfl (st2 := [vI ((if e260 = 0 then -1 else dgX TX (at1 + 1 + 1) e260.toNat))]) (by rw [show (updZ (AM) (kk) ((if e260 = 0 then -1 else dgX TX ((at1 + 1) + 1) e260.toNat))) kk = (if e260 = 0 then -1 else dgX TX (at1 + 1 + 1) e260.toNat) from updZ_eq _ _ _]) rfl ?_
                refine g_if_lt (pc := 270) (tgt := 288) hX (inI_mk (by omega) (by omega)) dX7_readsRule_270 (by decide) (fun c_270 => ?_) (fun c_270 => ?_)
                · skip
                  refine g_iconst (pc := 288) hX dX7_readsRule_288 ?_
                  refine g_at rfl rfl (st2 := [vI (bz false)]) rfl rfl ?_
                  refine g_zret (pc := 289) hX hR dX7_readsRule_289 ?_
                  have hle : at1 + 1 + 1 + e260 ≤ xm := by
                    by_cases h : e260 = 0
                    · omega
                    · have := (hd260 (e260 - 1) (by omega) (by omega)).1; omega
                  have hE := E_num hR2 hq4 hq0.1 hlt1 (by omega) hM2 he260 hd260 hq260 hle
                  exact ⟨_, _, _, _, _, _, _, ⟨⟨⟨(up_ne (by decide) m260_92), (up_ne (by decide) m260_93), (up_ne (by decide) m260_94)⟩, ⟨(up_ne (by decide) m260_95), (up_ne (by decide) m260_96)⟩, ⟨(up_ne (by decide) m260_97), (up_ne (by decide) m260_98), (up_ne (by decide) m260_99), (up_eq _ _ _), (up_ne (by decide) m260_101)⟩, ⟨(up_ne (by decide) m260_102), (up_ne (by decide) m260_103), (up_ne (by decide) m260_104)⟩⟩, fun q hq => (up_ne (by omega) ((hP260.2 q hq).trans (up_ne (by omega) (up_ne (by omega) (up_ne (by omega) ((hP186.2 q hq).trans ((hQlo.2 q hq).trans rfl)))))))⟩, ⟨by omega, by omega⟩, hW, hF.jn (by omega), ⟨by rw [updZ_eq]; omega, by rw [updZ_eq]; omega⟩, fun j hj => ⟨updZ_ne _ _ hj, updZ_ne _ _ hj⟩, Or.inr ⟨rfl, hE.2 (fun z => by have := hnb260.2.2 z.1; omega)⟩⟩
                · skip
                  refine g_aload_n (pc := 273) hX 0 rfl dX7_readsRule_273 ?_
                  refine g_get (pc := 274) hX (ci := 7) (fun _ h => List.mem_cons_of_mem _ (List.mem_append_right _ h)) rfl 92 (by omega) (up_ne (by decide) m260_92) 7 (by decide) (List.mem_of_getElem? (i := 4) rfl) rfl (v := vI ((at1 + 1) + 1 + e260)) rfl dX7_readsRule_274 ?_
                  refine g_aload_n (pc := 277) hX 0 rfl dX7_readsRule_277 ?_
                  refine g_get (pc := 278) hX (ci := 7) (fun _ h => List.mem_cons_of_mem _ (List.mem_append_right _ h)) rfl 92 (by omega) (up_ne (by decide) m260_92) 6 (by decide) (List.mem_of_getElem? (i := 8) rfl) rfl (v := vI (xm)) rfl dX7_readsRule_278 ?_
                  refine g_icmp_ne (pc := 281) (tgt := 288) hX (by first | assumption | exact inI_mk (by omega) (by omega)) (by first | assumption | exact inI_mk (by omega) (by omega)) dX7_readsRule_281 (by decide) (fun c_281 => ?_) (fun c_281 => ?_)
                  · skip
                    refine g_iconst (pc := 288) hX dX7_readsRule_288 ?_
                    refine g_at rfl rfl (st2 := [vI (bz false)]) rfl rfl ?_
                    refine g_zret (pc := 289) hX hR dX7_readsRule_289 ?_
                    have hle : at1 + 1 + 1 + e260 ≤ xm := by
                      by_cases h : e260 = 0
                      · omega
                      · have := (hd260 (e260 - 1) (by omega) (by omega)).1; omega
                    have hE := E_num hR2 hq4 hq0.1 hlt1 (by omega) hM2 he260 hd260 hq260 hle
                    exact ⟨_, _, _, _, _, _, _, ⟨⟨⟨(up_ne (by decide) m260_92), (up_ne (by decide) m260_93), (up_ne (by decide) m260_94)⟩, ⟨(up_ne (by decide) m260_95), (up_ne (by decide) m260_96)⟩, ⟨(up_ne (by decide) m260_97), (up_ne (by decide) m260_98), (up_ne (by decide) m260_99), (up_eq _ _ _), (up_ne (by decide) m260_101)⟩, ⟨(up_ne (by decide) m260_102), (up_ne (by decide) m260_103), (up_ne (by decide) m260_104)⟩⟩, fun q hq => (up_ne (by omega) ((hP260.2 q hq).trans (up_ne (by omega) (up_ne (by omega) (up_ne (by omega) ((hP186.2 q hq).trans ((hQlo.2 q hq).trans rfl)))))))⟩, ⟨by omega, by omega⟩, hW, hF.jn (by omega), ⟨by rw [updZ_eq]; omega, by rw [updZ_eq]; omega⟩, fun j hj => ⟨updZ_ne _ _ hj, updZ_ne _ _ hj⟩, Or.inr ⟨rfl, hE.2 (fun z => by have := hnb260.2.2 z.1; omega)⟩⟩
                  · skip
                    refine g_iconst (pc := 284) hX dX7_readsRule_284 ?_
                    refine g_goto (pc := 285) (tgt := 289) hX dX7_readsRule_285 (by decide) ?_
                    refine g_at rfl rfl (st2 := [vI (bz true)]) rfl rfl ?_
                    refine g_zret (pc := 289) hX hR dX7_readsRule_289 ?_
                    have hle : at1 + 1 + 1 + e260 ≤ xm := by
                      by_cases h : e260 = 0
                      · omega
                      · have := (hd260 (e260 - 1) (by omega) (by omega)).1; omega
                    have hE := E_num hR2 hq4 hq0.1 hlt1 (by omega) hM2 he260 hd260 hq260 hle
                    have hne : ¬ e260 = 0 := by intro h; rw [if_pos h] at c_270; omega
                    exact ⟨_, _, _, _, _, _, _, ⟨⟨⟨(up_ne (by decide) m260_92), (up_ne (by decide) m260_93), (up_ne (by decide) m260_94)⟩, ⟨(up_ne (by decide) m260_95), (up_ne (by decide) m260_96)⟩, ⟨(up_ne (by decide) m260_97), (up_ne (by decide) m260_98), (up_ne (by decide) m260_99), (up_eq _ _ _), (up_ne (by decide) m260_101)⟩, ⟨(up_ne (by decide) m260_102), (up_ne (by decide) m260_103), (up_ne (by decide) m260_104)⟩⟩, fun q hq => (up_ne (by omega) ((hP260.2 q hq).trans (up_ne (by omega) (up_ne (by omega) (up_ne (by omega) ((hP186.2 q hq).trans ((hQlo.2 q hq).trans rfl)))))))⟩, ⟨by omega, by omega⟩, hW, hF.jn (by omega), ⟨by rw [updZ_eq]; omega, by rw [updZ_eq]; omega⟩, fun j hj => ⟨updZ_ne _ _ hj, updZ_ne _ _ hj⟩, Or.inl ⟨rfl, by omega, by simp only [updZ_eq]; rw [if_neg hne]; exact hE.1 ⟨by omega, by omega⟩⟩⟩
              · skip
                refine g_aload_n (pc := 231) hX 0 rfl dX7_readsRule_231 ?_
                refine g_get (pc := 232) hX (ci := 7) (fun _ h => List.mem_cons_of_mem _ (List.mem_append_right _ h)) rfl 92 (by omega) (up_ne (by decide) (up_eq _ _ _)) 10 (by decide) (List.mem_of_getElem? (i := 6) rfl) rfl (v := .ref (gw_ad w 99)) rfl dX7_readsRule_232 ?_
                refine g_iload_n (pc := 235) hX 1 rfl dX7_readsRule_235 ?_
                refine g_iald (pc := 236) hX 99 (by omega) (up_eq _ _ _) (by omega) (by omega) (by decide) dX7_readsRule_236 ?_
                refine g_at rfl rfl (st2 := [vI (sgV TX xm (at1 + 1))]) (by rw [show (updZ (CH) (kk) (sgV TX xm (at1 + 1))) kk = sgV TX xm (at1 + 1) from updZ_eq _ _ _]) rfl ?_
                refine g_bipush (pc := 237) hX (by decide) dX7_readsRule_237 ?_
                refine g_icmp_eq (pc := 239) (tgt := 244) hX hs3 (by first | assumption | exact inI_mk (by omega) (by omega)) dX7_readsRule_239 (by decide) (fun c_239 => ?_) (fun c_239 => ?_)
                · skip
                  have hlt1 : at1 + 1 < xm := sgV_lt (TX := TX) (by omega)
                  refine g_aload_n (pc := 244) hX 0 rfl dX7_readsRule_244 ?_
                  refine g_dup (pc := 245) hX rfl dX7_readsRule_245 ?_
                  refine g_get (pc := 246) hX (ci := 7) (fun _ h => List.mem_cons_of_mem _ (List.mem_append_right _ h)) rfl 92 (by omega) (up_ne (by decide) (up_eq _ _ _)) 7 (by decide) (List.mem_of_getElem? (i := 4) rfl) rfl (v := vI (at1 + 1)) rfl dX7_readsRule_246 ?_
                  refine g_iconst (pc := 249) hX dX7_readsRule_249 ?_
                  refine g_iadd (pc := 250) hX dX7_readsRule_250 ?_
                  refine g_put (pc := 251) hX (ci := 7) (fun _ h => List.mem_cons_of_mem _ (List.mem_append_right _ h)) rfl tyX7 tyX7_ok nmX7 92 (by omega) (up_ne (by decide) (up_eq _ _ _)) 7 (by decide) (List.mem_of_getElem? (i := 4) rfl) rfl rfl (tyX7_ok 7 (by decide)) rfl (fit_int _) (Nat.le_of_ble_eq_true rfl) dX7_readsRule_251 ?_
                  refine g_at rfl rfl rfl (S2 := (va_up (va_up (va_up S186 92 (.inr (7, [.ref (gw_ad w 93), .ref (gw_ad w 94), vI (pm), .ref (gw_ad w 95), vI (tm), .ref (gw_ad w 96), vI (xm), vI (at1 + 1), .ref (gw_ad w 97), .ref (gw_ad w 98), .ref (gw_ad w 99), .ref (gw_ad w 100), .ref (gw_ad w 101), vI (wm1 - c186), vI (kk), vI (bz (ir)), .ref (gw_ad w 102), .ref (gw_ad w 103), .ref (gw_ad w 104)]))) 99 (AI w 8 (updZ (CH) (kk) (sgV TX xm (at1 + 1))))) 92 (.inr (7, [.ref (gw_ad w 93), .ref (gw_ad w 94), vI (pm), .ref (gw_ad w 95), vI (tm), .ref (gw_ad w 96), vI (xm), vI ((at1 + 1) + 1), .ref (gw_ad w 97), .ref (gw_ad w 98), .ref (gw_ad w 99), .ref (gw_ad w 100), .ref (gw_ad w 101), vI (wm1 - c186), vI (kk), vI (bz (ir)), .ref (gw_ad w 102), .ref (gw_ad w 103), .ref (gw_ad w 104)])))) rfl ?_
                  refine g_aload_n (pc := 254) hX 0 rfl dX7_readsRule_254 ?_
                  refine g_get (pc := 255) hX (ci := 7) (fun _ h => List.mem_cons_of_mem _ (List.mem_append_right _ h)) rfl 92 (by omega) (up_eq _ _ _) 11 (by decide) (List.mem_of_getElem? (i := 7) rfl) rfl (v := .ref (gw_ad w 100)) rfl dX7_readsRule_255 ?_
                  refine g_iload_n (pc := 258) hX 1 rfl dX7_readsRule_258 ?_
                  refine g_aload_n (pc := 259) hX 0 rfl dX7_readsRule_259 ?_
                  refine g_callV1 (pc := 260) (ci := 7) (As := []) (st2 := [vI (kk), .ref (gw_ad w 100)]) hX 92 (by omega) (up_eq _ _ _) rfl (c_X7_number hN (show modelAt w pm tm xm ((at1 + 1) + 1) (wm1 - c186) kk ir V PV TY TX (jnK MK1 WT1 kk (MM1 kk) wm1 c186.toNat) (updZ MM1 kk (MM1 kk + c186)) (updZ (CH) (kk) (sgV TX xm (at1 + 1))) AM WT1 WK FL PI (va_up (va_up (va_up S186 92 (.inr (7, [.ref (gw_ad w 93), .ref (gw_ad w 94), vI (pm), .ref (gw_ad w 95), vI (tm), .ref (gw_ad w 96), vI (xm), vI (at1 + 1), .ref (gw_ad w 97), .ref (gw_ad w 98), .ref (gw_ad w 99), .ref (gw_ad w 100), .ref (gw_ad w 101), vI (wm1 - c186), vI (kk), vI (bz (ir)), .ref (gw_ad w 102), .ref (gw_ad w 103), .ref (gw_ad w 104)]))) 99 (AI w 8 (updZ (CH) (kk) (sgV TX xm (at1 + 1))))) 92 (.inr (7, [.ref (gw_ad w 93), .ref (gw_ad w 94), vI (pm), .ref (gw_ad w 95), vI (tm), .ref (gw_ad w 96), vI (xm), vI ((at1 + 1) + 1), .ref (gw_ad w 97), .ref (gw_ad w 98), .ref (gw_ad w 99), .ref (gw_ad w 100), .ref (gw_ad w 101), vI (wm1 - c186), vI (kk), vI (bz (ir)), .ref (gw_ad w 102), .ref (gw_ad w 103), .ref (gw_ad w 104)]))) from ⟨⟨(up_eq _ _ _), (up_ne (by decide) (up_ne (by decide) (up_ne (by decide) m186_93))), (up_ne (by decide) (up_ne (by decide) (up_ne (by decide) m186_94)))⟩, ⟨(up_ne (by decide) (up_ne (by decide) (up_ne (by decide) m186_95))), (up_ne (by decide) (up_ne (by decide) (up_ne (by decide) m186_96)))⟩, ⟨(up_ne (by decide) (up_ne (by decide) (up_ne (by decide) m186_97))), (up_ne (by decide) (up_ne (by decide) (up_ne (by decide) m186_98))), (up_ne (by decide) (up_eq _ _ _)), (up_ne (by decide) (up_ne (by decide) (up_ne (by decide) m186_100))), (up_ne (by decide) (up_ne (by decide) (up_ne (by decide) m186_101)))⟩, ⟨(up_ne (by decide) (up_ne (by decide) (up_ne (by decide) m186_102))), (up_ne (by decide) (up_ne (by decide) (up_ne (by decide) m186_103))), (up_ne (by decide) (up_ne (by decide) (up_ne (by decide) m186_104)))⟩⟩) hxm (by omega) hTX) gX7_readsRule_X7_number (n := 0) (hw := rfl) (hrc := rfl) (hrs := rfl) (hd := by decide +kernel) (hR := ⟨Nat.le_of_ble_eq_true rfl, Nat.le_of_ble_eq_true rfl⟩) (hn := rfl) (hst := rfl) (hsum := Nat.le_of_ble_eq_true rfl) (hdg := dX7_readsRule_260) ?_
                  rintro _ S260 ⟨e260, he260, hd260, hq260, rfl, hP260⟩
                  obtain ⟨⟨m260_92, m260_93, m260_94⟩, ⟨m260_95, m260_96⟩, ⟨m260_97, m260_98, m260_99, m260_100, m260_101⟩, ⟨m260_102, m260_103, m260_104⟩⟩ := hP260.1
                  have hnb260 := nuB he260 hd260
                  refine g_at (pc2 := 263) rfl rfl (st2 := [vI ((if e260 = 0 then -1 else dgX TX ((at1 + 1) + 1) e260.toNat)), vI (kk), .ref (gw_ad w 100)]) rfl (S2 := S260) rfl ?_
                  refine g_iast (pc := 263) hX 100 (by omega) m260_100 (by omega) (by omega) (by decide) dX7_readsRule_263 ?_
                  refine g_at rfl rfl rfl (S2 := (va_up S260 100 (AI w 8 (updZ (AM) (kk) ((if e260 = 0 then -1 else dgX TX ((at1 + 1) + 1) e260.toNat)))))) rfl ?_
                  refine g_aload_n (pc := 264) hX 0 rfl dX7_readsRule_264 ?_
                  refine g_get (pc := 265) hX (ci := 7) (fun _ h => List.mem_cons_of_mem _ (List.mem_append_right _ h)) rfl 92 (by omega) (up_ne (by decide) m260_92) 11 (by decide) (List.mem_of_getElem? (i := 7) rfl) rfl (v := .ref (gw_ad w 100)) rfl dX7_readsRule_265 ?_
                  refine g_iload_n (pc := 268) hX 1 rfl dX7_readsRule_268 ?_
                  refine g_iald (pc := 269) hX 100 (by omega) (up_eq _ _ _) (by omega) (by omega) (by decide) dX7_readsRule_269 ?_
                  refine g_at rfl rfl (st2 := [vI ((if e260 = 0 then -1 else dgX TX (at1 + 1 + 1) e260.toNat))]) (by rw [show (updZ (AM) (kk) ((if e260 = 0 then -1 else dgX TX ((at1 + 1) + 1) e260.toNat))) kk = (if e260 = 0 then -1 else dgX TX (at1 + 1 + 1) e260.toNat) from updZ_eq _ _ _]) rfl ?_
                  refine g_if_lt (pc := 270) (tgt := 288) hX (inI_mk (by omega) (by omega)) dX7_readsRule_270 (by decide) (fun c_270 => ?_) (fun c_270 => ?_)
                  · skip
                    refine g_iconst (pc := 288) hX dX7_readsRule_288 ?_
                    refine g_at rfl rfl (st2 := [vI (bz false)]) rfl rfl ?_
                    refine g_zret (pc := 289) hX hR dX7_readsRule_289 ?_
                    have hle : at1 + 1 + 1 + e260 ≤ xm := by
                      by_cases h : e260 = 0
                      · omega
                      · have := (hd260 (e260 - 1) (by omega) (by omega)).1; omega
                    have hE := E_num hR2 hq4 hq0.1 hlt1 (by omega) hM2 he260 hd260 hq260 hle
                    exact ⟨_, _, _, _, _, _, _, ⟨⟨⟨(up_ne (by decide) m260_92), (up_ne (by decide) m260_93), (up_ne (by decide) m260_94)⟩, ⟨(up_ne (by decide) m260_95), (up_ne (by decide) m260_96)⟩, ⟨(up_ne (by decide) m260_97), (up_ne (by decide) m260_98), (up_ne (by decide) m260_99), (up_eq _ _ _), (up_ne (by decide) m260_101)⟩, ⟨(up_ne (by decide) m260_102), (up_ne (by decide) m260_103), (up_ne (by decide) m260_104)⟩⟩, fun q hq => (up_ne (by omega) ((hP260.2 q hq).trans (up_ne (by omega) (up_ne (by omega) (up_ne (by omega) ((hP186.2 q hq).trans ((hQlo.2 q hq).trans rfl)))))))⟩, ⟨by omega, by omega⟩, hW, hF.jn (by omega), ⟨by rw [updZ_eq]; omega, by rw [updZ_eq]; omega⟩, fun j hj => ⟨updZ_ne _ _ hj, updZ_ne _ _ hj⟩, Or.inr ⟨rfl, hE.2 (fun z => by have := hnb260.2.2 z.1; omega)⟩⟩
                  · skip
                    refine g_aload_n (pc := 273) hX 0 rfl dX7_readsRule_273 ?_
                    refine g_get (pc := 274) hX (ci := 7) (fun _ h => List.mem_cons_of_mem _ (List.mem_append_right _ h)) rfl 92 (by omega) (up_ne (by decide) m260_92) 7 (by decide) (List.mem_of_getElem? (i := 4) rfl) rfl (v := vI ((at1 + 1) + 1 + e260)) rfl dX7_readsRule_274 ?_
                    refine g_aload_n (pc := 277) hX 0 rfl dX7_readsRule_277 ?_
                    refine g_get (pc := 278) hX (ci := 7) (fun _ h => List.mem_cons_of_mem _ (List.mem_append_right _ h)) rfl 92 (by omega) (up_ne (by decide) m260_92) 6 (by decide) (List.mem_of_getElem? (i := 8) rfl) rfl (v := vI (xm)) rfl dX7_readsRule_278 ?_
                    refine g_icmp_ne (pc := 281) (tgt := 288) hX (by first | assumption | exact inI_mk (by omega) (by omega)) (by first | assumption | exact inI_mk (by omega) (by omega)) dX7_readsRule_281 (by decide) (fun c_281 => ?_) (fun c_281 => ?_)
                    · skip
                      refine g_iconst (pc := 288) hX dX7_readsRule_288 ?_
                      refine g_at rfl rfl (st2 := [vI (bz false)]) rfl rfl ?_
                      refine g_zret (pc := 289) hX hR dX7_readsRule_289 ?_
                      have hle : at1 + 1 + 1 + e260 ≤ xm := by
                        by_cases h : e260 = 0
                        · omega
                        · have := (hd260 (e260 - 1) (by omega) (by omega)).1; omega
                      have hE := E_num hR2 hq4 hq0.1 hlt1 (by omega) hM2 he260 hd260 hq260 hle
                      exact ⟨_, _, _, _, _, _, _, ⟨⟨⟨(up_ne (by decide) m260_92), (up_ne (by decide) m260_93), (up_ne (by decide) m260_94)⟩, ⟨(up_ne (by decide) m260_95), (up_ne (by decide) m260_96)⟩, ⟨(up_ne (by decide) m260_97), (up_ne (by decide) m260_98), (up_ne (by decide) m260_99), (up_eq _ _ _), (up_ne (by decide) m260_101)⟩, ⟨(up_ne (by decide) m260_102), (up_ne (by decide) m260_103), (up_ne (by decide) m260_104)⟩⟩, fun q hq => (up_ne (by omega) ((hP260.2 q hq).trans (up_ne (by omega) (up_ne (by omega) (up_ne (by omega) ((hP186.2 q hq).trans ((hQlo.2 q hq).trans rfl)))))))⟩, ⟨by omega, by omega⟩, hW, hF.jn (by omega), ⟨by rw [updZ_eq]; omega, by rw [updZ_eq]; omega⟩, fun j hj => ⟨updZ_ne _ _ hj, updZ_ne _ _ hj⟩, Or.inr ⟨rfl, hE.2 (fun z => by have := hnb260.2.2 z.1; omega)⟩⟩
                    · skip
                      refine g_iconst (pc := 284) hX dX7_readsRule_284 ?_
                      refine g_goto (pc := 285) (tgt := 289) hX dX7_readsRule_285 (by decide) ?_
                      refine g_at rfl rfl (st2 := [vI (bz true)]) rfl rfl ?_
                      refine g_zret (pc := 289) hX hR dX7_readsRule_289 ?_
                      have hle : at1 + 1 + 1 + e260 ≤ xm := by
                        by_cases h : e260 = 0
                        · omega
                        · have := (hd260 (e260 - 1) (by omega) (by omega)).1; omega
                      have hE := E_num hR2 hq4 hq0.1 hlt1 (by omega) hM2 he260 hd260 hq260 hle
                      have hne : ¬ e260 = 0 := by intro h; rw [if_pos h] at c_270; omega
                      exact ⟨_, _, _, _, _, _, _, ⟨⟨⟨(up_ne (by decide) m260_92), (up_ne (by decide) m260_93), (up_ne (by decide) m260_94)⟩, ⟨(up_ne (by decide) m260_95), (up_ne (by decide) m260_96)⟩, ⟨(up_ne (by decide) m260_97), (up_ne (by decide) m260_98), (up_ne (by decide) m260_99), (up_eq _ _ _), (up_ne (by decide) m260_101)⟩, ⟨(up_ne (by decide) m260_102), (up_ne (by decide) m260_103), (up_ne (by decide) m260_104)⟩⟩, fun q hq => (up_ne (by omega) ((hP260.2 q hq).trans (up_ne (by omega) (up_ne (by omega) (up_ne (by omega) ((hP186.2 q hq).trans ((hQlo.2 q hq).trans rfl)))))))⟩, ⟨by omega, by omega⟩, hW, hF.jn (by omega), ⟨by rw [updZ_eq]; omega, by rw [updZ_eq]; omega⟩, fun j hj => ⟨updZ_ne _ _ hj, updZ_ne _ _ hj⟩, Or.inl ⟨rfl, by omega, by simp only [updZ_eq]; rw [if_neg hne]; exact hE.1 ⟨by omega, by omega⟩⟩⟩
                · skip
                  refine g_iconst (pc := 242) hX dX7_readsRule_242 ?_
                  refine g_at rfl rfl (st2 := [vI (bz false)]) rfl rfl ?_
                  refine g_zret (pc := 243) hX hR dX7_readsRule_243 ?_
                  exact ⟨_, _, _, _, _, _, _, ⟨⟨⟨(up_ne (by decide) (up_eq _ _ _)), (up_ne (by decide) (up_ne (by decide) m186_93)), (up_ne (by decide) (up_ne (by decide) m186_94))⟩, ⟨(up_ne (by decide) (up_ne (by decide) m186_95)), (up_ne (by decide) (up_ne (by decide) m186_96))⟩, ⟨(up_ne (by decide) (up_ne (by decide) m186_97)), (up_ne (by decide) (up_ne (by decide) m186_98)), (up_eq _ _ _), (up_ne (by decide) (up_ne (by decide) m186_100)), (up_ne (by decide) (up_ne (by decide) m186_101))⟩, ⟨(up_ne (by decide) (up_ne (by decide) m186_102)), (up_ne (by decide) (up_ne (by decide) m186_103)), (up_ne (by decide) (up_ne (by decide) m186_104))⟩⟩, fun q hq => (up_ne (by omega) (up_ne (by omega) ((hP186.2 q hq).trans ((hQlo.2 q hq).trans rfl))))⟩, ⟨by omega, by omega⟩, hW, hF.jn (by omega), ⟨by rw [updZ_eq]; omega, by rw [updZ_eq]; omega⟩, fun j hj => ⟨updZ_ne _ _ hj, rfl⟩, Or.inr ⟨rfl, E_stop hR2 hq4 (by omega) (by omega)⟩⟩
          · skip
            refine g_iconst (pc := 182) hX dX7_readsRule_182 ?_
            refine g_at rfl rfl (st2 := [vI (bz false)]) rfl rfl ?_
            refine g_zret (pc := 183) hX hR dX7_readsRule_183 ?_
            exact ⟨_, _, _, _, _, _, _, ⟨⟨⟨lo_92, lo_93, lo_94⟩, ⟨lo_95, lo_96⟩, ⟨lo_97, lo_98, lo_99, lo_100, lo_101⟩, ⟨lo_102, lo_103, lo_104⟩⟩, fun q hq => ((hQlo.2 q hq).trans rfl)⟩, hb.1, hW, hF, ⟨by omega, by omega⟩, fun j _ => ⟨rfl, rfl⟩, Or.inr ⟨rfl, JC_stop hJC.1 (by omega) hxm.2 hJC.2.1 hJC.2.2.1 hJC.2.2.2 (fun z => by rw [← opN_wl]; omega)⟩⟩
      · skip
        have hJB : JB TX s0 kk at1 wm1 WT1 MK1 (MM1 kk) := hJ.elim (fun h => h.2) (fun h => absurd h.1 (by omega))
        refine g_aload_n (pc := 28) hX 0 rfl dX7_readsRule_28 ?_
        refine g_callV1 (pc := 29) (ci := 7) (As := []) (st2 := []) hX 92 (by omega) lo_92 rfl (c_X7_comparison hN (show modelAt w pm tm xm at1 wm1 kk ir V PV TY TX MK1 MM1 CH AM WT1 WK FL PI Slo from ⟨⟨lo_92, lo_93, lo_94⟩, ⟨lo_95, lo_96⟩, ⟨lo_97, lo_98, lo_99, lo_100, lo_101⟩, ⟨lo_102, lo_103, lo_104⟩⟩) hwh ⟨hb.2.2.1, hb.2.1, hb.2.2.2⟩ hW hxm hb.1 hTX hJB) gX7_readsRule_X7_comparison (n := 0) (hw := rfl) (hrc := rfl) (hrs := rfl) (hd := by decide +kernel) (hR := ⟨Nat.le_of_ble_eq_true rfl, Nat.le_of_ble_eq_true rfl⟩) (hn := rfl) (hst := rfl) (hsum := Nat.le_of_ble_eq_true rfl) (hdg := dX7_readsRule_29) ?_
        rintro _ S29 ⟨at29, wm29, WT29, MK29, MM29, b29, rfl, hP29, hA29, hB29, hW29, hF29, hs29, hj29⟩
        obtain ⟨⟨m29_92, m29_93, m29_94⟩, ⟨m29_95, m29_96⟩, ⟨m29_97, m29_98, m29_99, m29_100, m29_101⟩, ⟨m29_102, m29_103, m29_104⟩⟩ := hP29.1
        refine g_at (pc2 := 32) rfl rfl (st2 := [vI (bz (b29))]) rfl (S2 := S29) rfl ?_
        refine g_bif_ne (pc := 32) (tgt := 37) hX dX7_readsRule_32 (by decide) (fun c_32 => ?_) (fun c_32 => ?_)
        · skip
          have hjd := hj29 c_32
          refine g_aload_n (pc := 37) hX 0 rfl dX7_readsRule_37 ?_
          refine g_iconst (pc := 38) hX dX7_readsRule_38 ?_
          refine g_callV0 (pc := 39) (ci := 7) (As := [vI (0)]) (st2 := []) hX 92 (by omega) m29_92 rfl (c_X7_settles hN (show modelAt w pm tm xm at29 wm29 kk ir V PV TY TX MK29 MM29 CH AM WT29 WK FL PI S29 from ⟨⟨m29_92, m29_93, m29_94⟩, ⟨m29_95, m29_96⟩, ⟨m29_97, m29_98, m29_99, m29_100, m29_101⟩, ⟨m29_102, m29_103, m29_104⟩⟩) hwh ⟨hB29.2.1, hB29.1, by omega⟩ hW29 (dd := 0) (by decide)) gX7_readsRule_X7_settles (n := 1) (hw := rfl) (hrc := rfl) (hrs := rfl) (hd := by decide +kernel) (hR := ⟨Nat.le_of_ble_eq_true rfl, Nat.le_of_ble_eq_true rfl⟩) (hn := rfl) (hst := rfl) (hsum := Nat.le_of_ble_eq_true rfl) (hdg := dX7_readsRule_39) ?_
          rintro S39 ⟨c39, hc39, hj39, hs39, hP39⟩
          obtain ⟨⟨m39_92, m39_93, m39_94⟩, ⟨m39_95, m39_96⟩, ⟨m39_97, m39_98, m39_99, m39_100, m39_101⟩, ⟨m39_102, m39_103, m39_104⟩⟩ := hP39.1
          refine g_at (pc2 := 42) rfl rfl (st2 := []) rfl (S2 := S39) rfl ?_
          have li : ∀ (n0 : Nat) (at2 : Int) (wm2 : Int) (MK2 : Int → Int) (MM2 : Int → Int) (Sli : Nat → va_E), xm - at2 < n0 → POSTM w S pm tm xm at2 wm2 kk ir V PV TY TX MK2 MM2 CH AM WT29 WK FL PI Sli → ((at1 < at2 ∧ at2 ≤ xm) ∧ 0 ≤ wm2 ∧ 0 ≤ MM2 kk ∧ MM2 kk + wm2 ≤ at2) → (FRM kk MK MM MK2 MM2) → (JC TX s0 kk xm at2 wm2 WT29 MK2 (MM2 kk)) → G w { frames := 3, cells := 0, slots := 0, locals := 70 } X 4 42 [(0, .ref (gw_ad w 92)), (1, vI (kk)), (2, vI (r))] [] Sli := by
            intro n0
            induction n0 with
            | zero => intro at2 wm2 MK2 MM2 Sli hzli hQli hb2 hF2 hJ2; exact absurd hzli (by omega)
            | succ n0 ihli =>
              intro at2 wm2 MK2 MM2 Sli hzli hQli hb2 hF2 hJ2
              obtain ⟨⟨li_92, li_93, li_94⟩, ⟨li_95, li_96⟩, ⟨li_97, li_98, li_99, li_100, li_101⟩, ⟨li_102, li_103, li_104⟩⟩ := hQli.1
              have hs2 := sgV_in hTX xm at2
              refine g_aload_n (pc := 42) hX 0 rfl dX7_readsRule_42 ?_
              refine g_callV1 (pc := 43) (ci := 7) (As := []) (st2 := []) hX 92 (by omega) li_92 rfl (c_X7_sign hN (show modelAt w pm tm xm at2 wm2 kk ir V PV TY TX MK2 MM2 CH AM WT29 WK FL PI Sli from ⟨⟨li_92, li_93, li_94⟩, ⟨li_95, li_96⟩, ⟨li_97, li_98, li_99, li_100, li_101⟩, ⟨li_102, li_103, li_104⟩⟩) hxm (by omega) hTX) gX7_readsRule_X7_sign (n := 0) (hw := rfl) (hrc := rfl) (hrs := rfl) (hd := by decide +kernel) (hR := ⟨Nat.le_of_ble_eq_true rfl, Nat.le_of_ble_eq_true rfl⟩) (hn := rfl) (hst := rfl) (hsum := Nat.le_of_ble_eq_true rfl) (hdg := dX7_readsRule_43) ?_
              rintro _ S9 ⟨rfl, e9⟩
              rw [e9]
              clear e9 S9
              refine g_at (pc2 := 46) rfl rfl (st2 := [vI (sgV TX xm at2)]) rfl (S2 := Sli) rfl ?_
              refine g_bipush (pc := 46) hX (by decide) dX7_readsRule_46 ?_
              refine g_icmp_ne (pc := 48) (tgt := 91) hX hs2 (by first | assumption | exact inI_mk (by omega) (by omega)) dX7_readsRule_48 (by decide) (fun c_48 => ?_) (fun c_48 => ?_)
              · skip
                refine g_aload_n (pc := 91) hX 0 rfl dX7_readsRule_91 ?_
                refine g_callV1 (pc := 92) (ci := 7) (As := []) (st2 := []) hX 92 (by omega) li_92 rfl (c_X7_sign hN (show modelAt w pm tm xm at2 wm2 kk ir V PV TY TX MK2 MM2 CH AM WT29 WK FL PI Sli from ⟨⟨li_92, li_93, li_94⟩, ⟨li_95, li_96⟩, ⟨li_97, li_98, li_99, li_100, li_101⟩, ⟨li_102, li_103, li_104⟩⟩) hxm (by omega) hTX) gX7_readsRule_X7_sign (n := 0) (hw := rfl) (hrc := rfl) (hrs := rfl) (hd := by decide +kernel) (hR := ⟨Nat.le_of_ble_eq_true rfl, Nat.le_of_ble_eq_true rfl⟩) (hn := rfl) (hst := rfl) (hsum := Nat.le_of_ble_eq_true rfl) (hdg := dX7_readsRule_92) ?_
                rintro _ S9 ⟨rfl, e9⟩
                rw [e9]
                clear e9 S9
                refine g_at (pc2 := 95) rfl rfl (st2 := [vI (sgV TX xm at2)]) rfl (S2 := Sli) rfl ?_
                refine g_istore_n (pc := 95) hX (lv2 := [(3, vI (sgV TX xm at2)), (0, .ref (gw_ad w 92)), (1, vI (kk)), (2, vI (r))]) rfl (by decide) rfl dX7_readsRule_95 ?_
                refine g_iload_n (pc := 96) hX 0 rfl dX7_readsRule_96 ?_
                refine g_bipush (pc := 97) hX (by decide) dX7_readsRule_97 ?_
                refine g_icmp_eq (pc := 99) (tgt := 108) hX hs2 (by first | assumption | exact inI_mk (by omega) (by omega)) dX7_readsRule_99 (by decide) (fun c_99 => ?_) (fun c_99 => ?_)
                · skip
                  refine g_iconst (pc := 108) hX dX7_readsRule_108 ?_
                  refine g_goto (pc := 109) (tgt := 113) hX dX7_readsRule_109 (by decide) ?_
                  refine g_istore_n (pc := 113) hX (lv2 := [(2, vI (1)), (3, vI (sgV TX xm at2)), (0, .ref (gw_ad w 92)), (1, vI (kk))]) rfl (by decide) rfl dX7_readsRule_113 ?_
                  refine g_iload_n (pc := 114) hX 0 rfl dX7_readsRule_114 ?_
                  refine g_if_eq (pc := 115) (tgt := 163) hX (by first | assumption | exact inI_mk (by omega) (by omega)) dX7_readsRule_115 (by decide) (fun c_115 => ?_) (fun c_115 => ?_)
                  · skip
                    exact absurd c_115 (by omega)
                  · skip
                    have hlt : at2 < xm := sgV_lt (TX := TX) (by omega)
                    have hcx : TX at2 = 38 := by rw [← sgV_e (TX := TX) hlt]; omega
                    refine g_aload_n (pc := 118) hX 2 rfl dX7_readsRule_118 ?_
                    refine g_iload_n (pc := 119) hX 1 rfl dX7_readsRule_119 ?_
                    refine g_bipush (pc := 120) hX (by decide) dX7_readsRule_120 ?_
                    refine g_icmp_ne (pc := 122) (tgt := 129) hX hs2 (by first | assumption | exact inI_mk (by omega) (by omega)) dX7_readsRule_122 (by decide) (fun c_122 => ?_) (fun c_122 => ?_)
                    · skip
                      exact absurd c_99 c_122
                    · skip
                      refine g_iconst (pc := 125) hX dX7_readsRule_125 ?_
                      refine g_goto (pc := 126) (tgt := 130) hX dX7_readsRule_126 (by decide) ?_
                      refine g_callV0 (pc := 130) (ci := 7) (As := [vI (1)]) (st2 := []) hX 92 (by omega) li_92 rfl (c_X7_settles hN (show modelAt w pm tm xm at2 wm2 kk ir V PV TY TX MK2 MM2 CH AM WT29 WK FL PI Sli from ⟨⟨li_92, li_93, li_94⟩, ⟨li_95, li_96⟩, ⟨li_97, li_98, li_99, li_100, li_101⟩, ⟨li_102, li_103, li_104⟩⟩) hwh ⟨hb2.2.2.1, hb2.2.1, by omega⟩ hW29 (dd := 1) (by decide)) gX7_readsRule_X7_settles (n := 1) (hw := rfl) (hrc := rfl) (hrs := rfl) (hd := by decide +kernel) (hR := ⟨Nat.le_of_ble_eq_true rfl, Nat.le_of_ble_eq_true rfl⟩) (hn := rfl) (hst := rfl) (hsum := Nat.le_of_ble_eq_true rfl) (hdg := dX7_readsRule_130) ?_
                      rintro S130 ⟨c130, hc130, hj130, hs130, hP130⟩
                      obtain ⟨⟨m130_92, m130_93, m130_94⟩, ⟨m130_95, m130_96⟩, ⟨m130_97, m130_98, m130_99, m130_100, m130_101⟩, ⟨m130_102, m130_103, m130_104⟩⟩ := hP130.1
                      refine g_at (pc2 := 133) rfl rfl (st2 := []) rfl (S2 := S130) rfl ?_
                      refine g_aload_n (pc := 133) hX 2 rfl dX7_readsRule_133 ?_
                      refine g_get (pc := 134) hX (ci := 7) (fun _ h => List.mem_cons_of_mem _ (List.mem_append_right _ h)) rfl 92 (by omega) m130_92 12 (by decide) (List.mem_of_getElem? (i := 5) rfl) rfl (v := .ref (gw_ad w 101)) rfl dX7_readsRule_134 ?_
                      refine g_aload_n (pc := 137) hX 2 rfl dX7_readsRule_137 ?_
                      refine g_get (pc := 138) hX (ci := 7) (fun _ h => List.mem_cons_of_mem _ (List.mem_append_right _ h)) rfl 92 (by omega) m130_92 13 (by decide) (List.mem_of_getElem? (i := 3) rfl) rfl (v := vI (wm2 - c130)) rfl dX7_readsRule_138 ?_
                      refine g_iload_n (pc := 141) hX 1 rfl dX7_readsRule_141 ?_
                      refine g_iast (pc := 142) hX 101 (by omega) m130_101 (by omega) (by omega) (by decide) dX7_readsRule_142 ?_
                      refine g_at rfl rfl rfl (S2 := (va_up S130 101 (AI w 64 (updZ (WT29) (wm2 - c130) (sgV TX xm at2))))) rfl ?_
                      refine g_aload_n (pc := 143) hX 2 rfl dX7_readsRule_143 ?_
                      refine g_dup (pc := 144) hX rfl dX7_readsRule_144 ?_
                      refine g_get (pc := 145) hX (ci := 7) (fun _ h => List.mem_cons_of_mem _ (List.mem_append_right _ h)) rfl 92 (by omega) (up_ne (by decide) m130_92) 13 (by decide) (List.mem_of_getElem? (i := 3) rfl) rfl (v := vI (wm2 - c130)) rfl dX7_readsRule_145 ?_
                      refine g_iconst (pc := 148) hX dX7_readsRule_148 ?_
                      refine g_iadd (pc := 149) hX dX7_readsRule_149 ?_
                      refine g_put (pc := 150) hX (ci := 7) (fun _ h => List.mem_cons_of_mem _ (List.mem_append_right _ h)) rfl tyX7 tyX7_ok nmX7 92 (by omega) (up_ne (by decide) m130_92) 13 (by decide) (List.mem_of_getElem? (i := 3) rfl) rfl rfl (tyX7_ok 13 (by decide)) rfl (fit_int _) (Nat.le_of_ble_eq_true rfl) dX7_readsRule_150 ?_
                      refine g_at rfl rfl rfl (S2 := (va_up (va_up S130 101 (AI w 64 (updZ (WT29) (wm2 - c130) (sgV TX xm at2)))) 92 (.inr (7, [.ref (gw_ad w 93), .ref (gw_ad w 94), vI (pm), .ref (gw_ad w 95), vI (tm), .ref (gw_ad w 96), vI (xm), vI (at2), .ref (gw_ad w 97), .ref (gw_ad w 98), .ref (gw_ad w 99), .ref (gw_ad w 100), .ref (gw_ad w 101), vI ((wm2 - c130) + 1), vI (kk), vI (bz (ir)), .ref (gw_ad w 102), .ref (gw_ad w 103), .ref (gw_ad w 104)])))) rfl ?_
                      refine g_aload_n (pc := 153) hX 2 rfl dX7_readsRule_153 ?_
                      refine g_dup (pc := 154) hX rfl dX7_readsRule_154 ?_
                      refine g_get (pc := 155) hX (ci := 7) (fun _ h => List.mem_cons_of_mem _ (List.mem_append_right _ h)) rfl 92 (by omega) (up_eq _ _ _) 7 (by decide) (List.mem_of_getElem? (i := 4) rfl) rfl (v := vI (at2)) rfl dX7_readsRule_155 ?_
                      refine g_iconst (pc := 158) hX dX7_readsRule_158 ?_
                      refine g_iadd (pc := 159) hX dX7_readsRule_159 ?_
                      refine g_put (pc := 160) hX (ci := 7) (fun _ h => List.mem_cons_of_mem _ (List.mem_append_right _ h)) rfl tyX7 tyX7_ok nmX7 92 (by omega) (up_eq _ _ _) 7 (by decide) (List.mem_of_getElem? (i := 4) rfl) rfl rfl (tyX7_ok 7 (by decide)) rfl (fit_int _) (Nat.le_of_ble_eq_true rfl) dX7_readsRule_160 ?_
                      refine g_at rfl rfl rfl (S2 := (va_up (va_up (va_up S130 101 (AI w 64 (updZ (WT29) (wm2 - c130) (sgV TX xm at2)))) 92 (.inr (7, [.ref (gw_ad w 93), .ref (gw_ad w 94), vI (pm), .ref (gw_ad w 95), vI (tm), .ref (gw_ad w 96), vI (xm), vI (at2), .ref (gw_ad w 97), .ref (gw_ad w 98), .ref (gw_ad w 99), .ref (gw_ad w 100), .ref (gw_ad w 101), vI ((wm2 - c130) + 1), vI (kk), vI (bz (ir)), .ref (gw_ad w 102), .ref (gw_ad w 103), .ref (gw_ad w 104)]))) 92 (.inr (7, [.ref (gw_ad w 93), .ref (gw_ad w 94), vI (pm), .ref (gw_ad w 95), vI (tm), .ref (gw_ad w 96), vI (xm), vI (at2 + 1), .ref (gw_ad w 97), .ref (gw_ad w 98), .ref (gw_ad w 99), .ref (gw_ad w 100), .ref (gw_ad w 101), vI ((wm2 - c130) + 1), vI (kk), vI (bz (ir)), .ref (gw_ad w 102), .ref (gw_ad w 103), .ref (gw_ad w 104)])))) rfl ?_
                      refine g_goto (pc := 163) (tgt := 24) hX dX7_readsRule_163 (by decide) ?_
                      refine g_sub (lv2 := [(0, .ref (gw_ad w 92)), (1, vI (kk)), (2, vI (1))]) [2, 3, 0] rfl ?_
                      exact ihlo (at2 + 1) ((wm2 - c130) + 1) (updZ (WT29) (wm2 - c130) (sgV TX xm at2)) (jnK MK2 WT29 kk (MM2 kk) wm2 c130.toNat) (updZ MM2 kk (MM2 kk + c130)) (1) _ (by omega) (show POSTM w S pm tm xm (at2 + 1) ((wm2 - c130) + 1) kk ir V PV TY TX (jnK MK2 WT29 kk (MM2 kk) wm2 c130.toNat) (updZ MM2 kk (MM2 kk + c130)) CH AM (updZ (WT29) (wm2 - c130) (sgV TX xm at2)) WK FL PI (va_up (va_up (va_up S130 101 (AI w 64 (updZ (WT29) (wm2 - c130) (sgV TX xm at2)))) 92 (.inr (7, [.ref (gw_ad w 93), .ref (gw_ad w 94), vI (pm), .ref (gw_ad w 95), vI (tm), .ref (gw_ad w 96), vI (xm), vI (at2), .ref (gw_ad w 97), .ref (gw_ad w 98), .ref (gw_ad w 99), .ref (gw_ad w 100), .ref (gw_ad w 101), vI ((wm2 - c130) + 1), vI (kk), vI (bz (ir)), .ref (gw_ad w 102), .ref (gw_ad w 103), .ref (gw_ad w 104)]))) 92 (.inr (7, [.ref (gw_ad w 93), .ref (gw_ad w 94), vI (pm), .ref (gw_ad w 95), vI (tm), .ref (gw_ad w 96), vI (xm), vI (at2 + 1), .ref (gw_ad w 97), .ref (gw_ad w 98), .ref (gw_ad w 99), .ref (gw_ad w 100), .ref (gw_ad w 101), vI ((wm2 - c130) + 1), vI (kk), vI (bz (ir)), .ref (gw_ad w 102), .ref (gw_ad w 103), .ref (gw_ad w 104)]))) from ⟨⟨⟨(up_eq _ _ _), (up_ne (by decide) (up_ne (by decide) (up_ne (by decide) m130_93))), (up_ne (by decide) (up_ne (by decide) (up_ne (by decide) m130_94)))⟩, ⟨(up_ne (by decide) (up_ne (by decide) (up_ne (by decide) m130_95))), (up_ne (by decide) (up_ne (by decide) (up_ne (by decide) m130_96)))⟩, ⟨(up_ne (by decide) (up_ne (by decide) (up_ne (by decide) m130_97))), (up_ne (by decide) (up_ne (by decide) (up_ne (by decide) m130_98))), (up_ne (by decide) (up_ne (by decide) (up_ne (by decide) m130_99))), (up_ne (by decide) (up_ne (by decide) (up_ne (by decide) m130_100))), (up_ne (by decide) (up_ne (by decide) (up_eq _ _ _)))⟩, ⟨(up_ne (by decide) (up_ne (by decide) (up_ne (by decide) m130_102))), (up_ne (by decide) (up_ne (by decide) (up_ne (by decide) m130_103))), (up_ne (by decide) (up_ne (by decide) (up_ne (by decide) m130_104)))⟩⟩, fun q hq => (up_ne (by omega) (up_ne (by omega) (up_ne (by omega) ((hP130.2 q hq).trans ((hQli.2 q hq).trans rfl)))))⟩) (⟨⟨by omega, by omega⟩, by omega, by rw [updZ_eq]; omega, by rw [updZ_eq]; omega⟩) (updZ_in hW29 (sgV_in hTX _ _)) (hF2.jn (by omega)) (Or.inl ⟨rfl, by simp only [updZ_eq]; rw [sgV_e hlt]; exact JC_link hJ2 hlt hxm.2 hb2.2.2.1 hb2.2.1 (Or.inl hcx) hc130 (by rw [if_pos hcx]; exact hj130) (by rw [if_pos hcx]; exact hs130)⟩)
                · skip
                  refine g_iload_n (pc := 102) hX 0 rfl dX7_readsRule_102 ?_
                  refine g_bipush (pc := 103) hX (by decide) dX7_readsRule_103 ?_
                  refine g_icmp_ne (pc := 105) (tgt := 112) hX hs2 (by first | assumption | exact inI_mk (by omega) (by omega)) dX7_readsRule_105 (by decide) (fun c_105 => ?_) (fun c_105 => ?_)
                  · skip
                    refine g_iconst (pc := 112) hX dX7_readsRule_112 ?_
                    refine g_istore_n (pc := 113) hX (lv2 := [(2, vI (0)), (3, vI (sgV TX xm at2)), (0, .ref (gw_ad w 92)), (1, vI (kk))]) rfl (by decide) rfl dX7_readsRule_113 ?_
                    refine g_iload_n (pc := 114) hX 0 rfl dX7_readsRule_114 ?_
                    refine g_if_eq (pc := 115) (tgt := 163) hX (by first | assumption | exact inI_mk (by omega) (by omega)) dX7_readsRule_115 (by decide) (fun c_115 => ?_) (fun c_115 => ?_)
                    · skip
                      refine g_goto (pc := 163) (tgt := 24) hX dX7_readsRule_163 (by decide) ?_
                      refine g_sub (lv2 := [(0, .ref (gw_ad w 92)), (1, vI (kk)), (2, vI (0))]) [2, 3, 0] rfl ?_
                      exact ihlo (at2) (wm2) (WT29) (MK2) (MM2) (0) _ (by omega) (show POSTM w S pm tm xm at2 wm2 kk ir V PV TY TX MK2 MM2 CH AM WT29 WK FL PI Sli from ⟨⟨⟨li_92, li_93, li_94⟩, ⟨li_95, li_96⟩, ⟨li_97, li_98, li_99, li_100, li_101⟩, ⟨li_102, li_103, li_104⟩⟩, fun q hq => ((hQli.2 q hq).trans rfl)⟩) (⟨⟨by omega, by omega⟩, by omega, by omega, by omega⟩) (hW29) (hF2) (Or.inr ⟨rfl, hJ2, by omega, by omega, fun z => by rw [← opN_wl]; have := opN_r WT29 wm2.toNat; omega⟩)
                    · skip
                      exact absurd c_115 (by omega)
                  · skip
                    refine g_iconst (pc := 108) hX dX7_readsRule_108 ?_
                    refine g_goto (pc := 109) (tgt := 113) hX dX7_readsRule_109 (by decide) ?_
                    refine g_istore_n (pc := 113) hX (lv2 := [(2, vI (1)), (3, vI (sgV TX xm at2)), (0, .ref (gw_ad w 92)), (1, vI (kk))]) rfl (by decide) rfl dX7_readsRule_113 ?_
                    refine g_iload_n (pc := 114) hX 0 rfl dX7_readsRule_114 ?_
                    refine g_if_eq (pc := 115) (tgt := 163) hX (by first | assumption | exact inI_mk (by omega) (by omega)) dX7_readsRule_115 (by decide) (fun c_115 => ?_) (fun c_115 => ?_)
                    · skip
                      exact absurd c_115 (by omega)
                    · skip
                      have hlt : at2 < xm := sgV_lt (TX := TX) (by omega)
                      have hcx : TX at2 = 124 := by rw [← sgV_e (TX := TX) hlt]; omega
                      refine g_aload_n (pc := 118) hX 2 rfl dX7_readsRule_118 ?_
                      refine g_iload_n (pc := 119) hX 1 rfl dX7_readsRule_119 ?_
                      refine g_bipush (pc := 120) hX (by decide) dX7_readsRule_120 ?_
                      refine g_icmp_ne (pc := 122) (tgt := 129) hX hs2 (by first | assumption | exact inI_mk (by omega) (by omega)) dX7_readsRule_122 (by decide) (fun c_122 => ?_) (fun c_122 => ?_)
                      · skip
                        refine g_iconst (pc := 129) hX dX7_readsRule_129 ?_
                        refine g_callV0 (pc := 130) (ci := 7) (As := [vI (2)]) (st2 := []) hX 92 (by omega) li_92 rfl (c_X7_settles hN (show modelAt w pm tm xm at2 wm2 kk ir V PV TY TX MK2 MM2 CH AM WT29 WK FL PI Sli from ⟨⟨li_92, li_93, li_94⟩, ⟨li_95, li_96⟩, ⟨li_97, li_98, li_99, li_100, li_101⟩, ⟨li_102, li_103, li_104⟩⟩) hwh ⟨hb2.2.2.1, hb2.2.1, by omega⟩ hW29 (dd := 2) (by decide)) gX7_readsRule_X7_settles (n := 1) (hw := rfl) (hrc := rfl) (hrs := rfl) (hd := by decide +kernel) (hR := ⟨Nat.le_of_ble_eq_true rfl, Nat.le_of_ble_eq_true rfl⟩) (hn := rfl) (hst := rfl) (hsum := Nat.le_of_ble_eq_true rfl) (hdg := dX7_readsRule_130) ?_
                        rintro S130 ⟨c130, hc130, hj130, hs130, hP130⟩
                        obtain ⟨⟨m130_92, m130_93, m130_94⟩, ⟨m130_95, m130_96⟩, ⟨m130_97, m130_98, m130_99, m130_100, m130_101⟩, ⟨m130_102, m130_103, m130_104⟩⟩ := hP130.1
                        refine g_at (pc2 := 133) rfl rfl (st2 := []) rfl (S2 := S130) rfl ?_
                        refine g_aload_n (pc := 133) hX 2 rfl dX7_readsRule_133 ?_
                        refine g_get (pc := 134) hX (ci := 7) (fun _ h => List.mem_cons_of_mem _ (List.mem_append_right _ h)) rfl 92 (by omega) m130_92 12 (by decide) (List.mem_of_getElem? (i := 5) rfl) rfl (v := .ref (gw_ad w 101)) rfl dX7_readsRule_134 ?_
                        refine g_aload_n (pc := 137) hX 2 rfl dX7_readsRule_137 ?_
                        refine g_get (pc := 138) hX (ci := 7) (fun _ h => List.mem_cons_of_mem _ (List.mem_append_right _ h)) rfl 92 (by omega) m130_92 13 (by decide) (List.mem_of_getElem? (i := 3) rfl) rfl (v := vI (wm2 - c130)) rfl dX7_readsRule_138 ?_
                        refine g_iload_n (pc := 141) hX 1 rfl dX7_readsRule_141 ?_
                        refine g_iast (pc := 142) hX 101 (by omega) m130_101 (by omega) (by omega) (by decide) dX7_readsRule_142 ?_
                        refine g_at rfl rfl rfl (S2 := (va_up S130 101 (AI w 64 (updZ (WT29) (wm2 - c130) (sgV TX xm at2))))) rfl ?_
                        refine g_aload_n (pc := 143) hX 2 rfl dX7_readsRule_143 ?_
                        refine g_dup (pc := 144) hX rfl dX7_readsRule_144 ?_
                        refine g_get (pc := 145) hX (ci := 7) (fun _ h => List.mem_cons_of_mem _ (List.mem_append_right _ h)) rfl 92 (by omega) (up_ne (by decide) m130_92) 13 (by decide) (List.mem_of_getElem? (i := 3) rfl) rfl (v := vI (wm2 - c130)) rfl dX7_readsRule_145 ?_
                        refine g_iconst (pc := 148) hX dX7_readsRule_148 ?_
                        refine g_iadd (pc := 149) hX dX7_readsRule_149 ?_
                        refine g_put (pc := 150) hX (ci := 7) (fun _ h => List.mem_cons_of_mem _ (List.mem_append_right _ h)) rfl tyX7 tyX7_ok nmX7 92 (by omega) (up_ne (by decide) m130_92) 13 (by decide) (List.mem_of_getElem? (i := 3) rfl) rfl rfl (tyX7_ok 13 (by decide)) rfl (fit_int _) (Nat.le_of_ble_eq_true rfl) dX7_readsRule_150 ?_
                        refine g_at rfl rfl rfl (S2 := (va_up (va_up S130 101 (AI w 64 (updZ (WT29) (wm2 - c130) (sgV TX xm at2)))) 92 (.inr (7, [.ref (gw_ad w 93), .ref (gw_ad w 94), vI (pm), .ref (gw_ad w 95), vI (tm), .ref (gw_ad w 96), vI (xm), vI (at2), .ref (gw_ad w 97), .ref (gw_ad w 98), .ref (gw_ad w 99), .ref (gw_ad w 100), .ref (gw_ad w 101), vI ((wm2 - c130) + 1), vI (kk), vI (bz (ir)), .ref (gw_ad w 102), .ref (gw_ad w 103), .ref (gw_ad w 104)])))) rfl ?_
                        refine g_aload_n (pc := 153) hX 2 rfl dX7_readsRule_153 ?_
                        refine g_dup (pc := 154) hX rfl dX7_readsRule_154 ?_
                        refine g_get (pc := 155) hX (ci := 7) (fun _ h => List.mem_cons_of_mem _ (List.mem_append_right _ h)) rfl 92 (by omega) (up_eq _ _ _) 7 (by decide) (List.mem_of_getElem? (i := 4) rfl) rfl (v := vI (at2)) rfl dX7_readsRule_155 ?_
                        refine g_iconst (pc := 158) hX dX7_readsRule_158 ?_
                        refine g_iadd (pc := 159) hX dX7_readsRule_159 ?_
                        refine g_put (pc := 160) hX (ci := 7) (fun _ h => List.mem_cons_of_mem _ (List.mem_append_right _ h)) rfl tyX7 tyX7_ok nmX7 92 (by omega) (up_eq _ _ _) 7 (by decide) (List.mem_of_getElem? (i := 4) rfl) rfl rfl (tyX7_ok 7 (by decide)) rfl (fit_int _) (Nat.le_of_ble_eq_true rfl) dX7_readsRule_160 ?_
                        refine g_at rfl rfl rfl (S2 := (va_up (va_up (va_up S130 101 (AI w 64 (updZ (WT29) (wm2 - c130) (sgV TX xm at2)))) 92 (.inr (7, [.ref (gw_ad w 93), .ref (gw_ad w 94), vI (pm), .ref (gw_ad w 95), vI (tm), .ref (gw_ad w 96), vI (xm), vI (at2), .ref (gw_ad w 97), .ref (gw_ad w 98), .ref (gw_ad w 99), .ref (gw_ad w 100), .ref (gw_ad w 101), vI ((wm2 - c130) + 1), vI (kk), vI (bz (ir)), .ref (gw_ad w 102), .ref (gw_ad w 103), .ref (gw_ad w 104)]))) 92 (.inr (7, [.ref (gw_ad w 93), .ref (gw_ad w 94), vI (pm), .ref (gw_ad w 95), vI (tm), .ref (gw_ad w 96), vI (xm), vI (at2 + 1), .ref (gw_ad w 97), .ref (gw_ad w 98), .ref (gw_ad w 99), .ref (gw_ad w 100), .ref (gw_ad w 101), vI ((wm2 - c130) + 1), vI (kk), vI (bz (ir)), .ref (gw_ad w 102), .ref (gw_ad w 103), .ref (gw_ad w 104)])))) rfl ?_
                        refine g_goto (pc := 163) (tgt := 24) hX dX7_readsRule_163 (by decide) ?_
                        refine g_sub (lv2 := [(0, .ref (gw_ad w 92)), (1, vI (kk)), (2, vI (1))]) [2, 3, 0] rfl ?_
                        exact ihlo (at2 + 1) ((wm2 - c130) + 1) (updZ (WT29) (wm2 - c130) (sgV TX xm at2)) (jnK MK2 WT29 kk (MM2 kk) wm2 c130.toNat) (updZ MM2 kk (MM2 kk + c130)) (1) _ (by omega) (show POSTM w S pm tm xm (at2 + 1) ((wm2 - c130) + 1) kk ir V PV TY TX (jnK MK2 WT29 kk (MM2 kk) wm2 c130.toNat) (updZ MM2 kk (MM2 kk + c130)) CH AM (updZ (WT29) (wm2 - c130) (sgV TX xm at2)) WK FL PI (va_up (va_up (va_up S130 101 (AI w 64 (updZ (WT29) (wm2 - c130) (sgV TX xm at2)))) 92 (.inr (7, [.ref (gw_ad w 93), .ref (gw_ad w 94), vI (pm), .ref (gw_ad w 95), vI (tm), .ref (gw_ad w 96), vI (xm), vI (at2), .ref (gw_ad w 97), .ref (gw_ad w 98), .ref (gw_ad w 99), .ref (gw_ad w 100), .ref (gw_ad w 101), vI ((wm2 - c130) + 1), vI (kk), vI (bz (ir)), .ref (gw_ad w 102), .ref (gw_ad w 103), .ref (gw_ad w 104)]))) 92 (.inr (7, [.ref (gw_ad w 93), .ref (gw_ad w 94), vI (pm), .ref (gw_ad w 95), vI (tm), .ref (gw_ad w 96), vI (xm), vI (at2 + 1), .ref (gw_ad w 97), .ref (gw_ad w 98), .ref (gw_ad w 99), .ref (gw_ad w 100), .ref (gw_ad w 101), vI ((wm2 - c130) + 1), vI (kk), vI (bz (ir)), .ref (gw_ad w 102), .ref (gw_ad w 103), .ref (gw_ad w 104)]))) from ⟨⟨⟨(up_eq _ _ _), (up_ne (by decide) (up_ne (by decide) (up_ne (by decide) m130_93))), (up_ne (by decide) (up_ne (by decide) (up_ne (by decide) m130_94)))⟩, ⟨(up_ne (by decide) (up_ne (by decide) (up_ne (by decide) m130_95))), (up_ne (by decide) (up_ne (by decide) (up_ne (by decide) m130_96)))⟩, ⟨(up_ne (by decide) (up_ne (by decide) (up_ne (by decide) m130_97))), (up_ne (by decide) (up_ne (by decide) (up_ne (by decide) m130_98))), (up_ne (by decide) (up_ne (by decide) (up_ne (by decide) m130_99))), (up_ne (by decide) (up_ne (by decide) (up_ne (by decide) m130_100))), (up_ne (by decide) (up_ne (by decide) (up_eq _ _ _)))⟩, ⟨(up_ne (by decide) (up_ne (by decide) (up_ne (by decide) m130_102))), (up_ne (by decide) (up_ne (by decide) (up_ne (by decide) m130_103))), (up_ne (by decide) (up_ne (by decide) (up_ne (by decide) m130_104)))⟩⟩, fun q hq => (up_ne (by omega) (up_ne (by omega) (up_ne (by omega) ((hP130.2 q hq).trans ((hQli.2 q hq).trans rfl)))))⟩) (⟨⟨by omega, by omega⟩, by omega, by rw [updZ_eq]; omega, by rw [updZ_eq]; omega⟩) (updZ_in hW29 (sgV_in hTX _ _)) (hF2.jn (by omega)) (Or.inl ⟨rfl, by simp only [updZ_eq]; rw [sgV_e hlt]; exact JC_link hJ2 hlt hxm.2 hb2.2.2.1 hb2.2.1 (Or.inr hcx) hc130 (by rw [if_neg (show ¬ TX at2 = 38 by omega)]; exact hj130) (by rw [if_neg (show ¬ TX at2 = 38 by omega)]; exact hs130)⟩)
                      · skip
                        exact absurd c_122 c_99
              · skip
                refine g_aload_n (pc := 51) hX 0 rfl dX7_readsRule_51 ?_
                refine g_callV1 (pc := 52) (ci := 7) (As := []) (st2 := []) hX 92 (by omega) li_92 rfl (c_X7_opens hN (show modelAt w pm tm xm at2 wm2 kk ir V PV TY TX MK2 MM2 CH AM WT29 WK FL PI Sli from ⟨⟨li_92, li_93, li_94⟩, ⟨li_95, li_96⟩, ⟨li_97, li_98, li_99, li_100, li_101⟩, ⟨li_102, li_103, li_104⟩⟩) ⟨hb2.2.1, by omega⟩ hW29) gX7_readsRule_X7_opens (n := 0) (hw := rfl) (hrc := rfl) (hrs := rfl) (hd := by decide +kernel) (hR := ⟨Nat.le_of_ble_eq_true rfl, Nat.le_of_ble_eq_true rfl⟩) (hn := rfl) (hst := rfl) (hsum := Nat.le_of_ble_eq_true rfl) (hdg := dX7_readsRule_52) ?_
                rintro _ S9 ⟨rfl, e9⟩
                rw [e9]
                clear e9 S9
                refine g_at (pc2 := 55) rfl rfl (st2 := [vI (opN_ WT29 (wm2).toNat)]) rfl (S2 := Sli) rfl ?_
                refine g_if_le (pc := 55) (tgt := 91) hX (inI_mk (by have := opN_r WT29 wm2.toNat; omega) (by have := opN_r WT29 wm2.toNat; omega)) dX7_readsRule_55 (by decide) (fun c_55 => ?_) (fun c_55 => ?_)
                · skip
                  refine g_aload_n (pc := 91) hX 0 rfl dX7_readsRule_91 ?_
                  refine g_callV1 (pc := 92) (ci := 7) (As := []) (st2 := []) hX 92 (by omega) li_92 rfl (c_X7_sign hN (show modelAt w pm tm xm at2 wm2 kk ir V PV TY TX MK2 MM2 CH AM WT29 WK FL PI Sli from ⟨⟨li_92, li_93, li_94⟩, ⟨li_95, li_96⟩, ⟨li_97, li_98, li_99, li_100, li_101⟩, ⟨li_102, li_103, li_104⟩⟩) hxm (by omega) hTX) gX7_readsRule_X7_sign (n := 0) (hw := rfl) (hrc := rfl) (hrs := rfl) (hd := by decide +kernel) (hR := ⟨Nat.le_of_ble_eq_true rfl, Nat.le_of_ble_eq_true rfl⟩) (hn := rfl) (hst := rfl) (hsum := Nat.le_of_ble_eq_true rfl) (hdg := dX7_readsRule_92) ?_
                  rintro _ S9 ⟨rfl, e9⟩
                  rw [e9]
                  clear e9 S9
                  refine g_at (pc2 := 95) rfl rfl (st2 := [vI (sgV TX xm at2)]) rfl (S2 := Sli) rfl ?_
                  refine g_istore_n (pc := 95) hX (lv2 := [(3, vI (sgV TX xm at2)), (0, .ref (gw_ad w 92)), (1, vI (kk)), (2, vI (r))]) rfl (by decide) rfl dX7_readsRule_95 ?_
                  refine g_iload_n (pc := 96) hX 0 rfl dX7_readsRule_96 ?_
                  refine g_bipush (pc := 97) hX (by decide) dX7_readsRule_97 ?_
                  refine g_icmp_eq (pc := 99) (tgt := 108) hX hs2 (by first | assumption | exact inI_mk (by omega) (by omega)) dX7_readsRule_99 (by decide) (fun c_99 => ?_) (fun c_99 => ?_)
                  · skip
                    refine g_iconst (pc := 108) hX dX7_readsRule_108 ?_
                    refine g_goto (pc := 109) (tgt := 113) hX dX7_readsRule_109 (by decide) ?_
                    refine g_istore_n (pc := 113) hX (lv2 := [(2, vI (1)), (3, vI (sgV TX xm at2)), (0, .ref (gw_ad w 92)), (1, vI (kk))]) rfl (by decide) rfl dX7_readsRule_113 ?_
                    refine g_iload_n (pc := 114) hX 0 rfl dX7_readsRule_114 ?_
                    refine g_if_eq (pc := 115) (tgt := 163) hX (by first | assumption | exact inI_mk (by omega) (by omega)) dX7_readsRule_115 (by decide) (fun c_115 => ?_) (fun c_115 => ?_)
                    · skip
                      exact absurd c_115 (by omega)
                    · skip
                      have hlt : at2 < xm := sgV_lt (TX := TX) (by omega)
                      have hcx : TX at2 = 38 := by rw [← sgV_e (TX := TX) hlt]; omega
                      refine g_aload_n (pc := 118) hX 2 rfl dX7_readsRule_118 ?_
                      refine g_iload_n (pc := 119) hX 1 rfl dX7_readsRule_119 ?_
                      refine g_bipush (pc := 120) hX (by decide) dX7_readsRule_120 ?_
                      refine g_icmp_ne (pc := 122) (tgt := 129) hX hs2 (by first | assumption | exact inI_mk (by omega) (by omega)) dX7_readsRule_122 (by decide) (fun c_122 => ?_) (fun c_122 => ?_)
                      · skip
                        exact absurd c_99 c_122
                      · skip
                        refine g_iconst (pc := 125) hX dX7_readsRule_125 ?_
                        refine g_goto (pc := 126) (tgt := 130) hX dX7_readsRule_126 (by decide) ?_
                        refine g_callV0 (pc := 130) (ci := 7) (As := [vI (1)]) (st2 := []) hX 92 (by omega) li_92 rfl (c_X7_settles hN (show modelAt w pm tm xm at2 wm2 kk ir V PV TY TX MK2 MM2 CH AM WT29 WK FL PI Sli from ⟨⟨li_92, li_93, li_94⟩, ⟨li_95, li_96⟩, ⟨li_97, li_98, li_99, li_100, li_101⟩, ⟨li_102, li_103, li_104⟩⟩) hwh ⟨hb2.2.2.1, hb2.2.1, by omega⟩ hW29 (dd := 1) (by decide)) gX7_readsRule_X7_settles (n := 1) (hw := rfl) (hrc := rfl) (hrs := rfl) (hd := by decide +kernel) (hR := ⟨Nat.le_of_ble_eq_true rfl, Nat.le_of_ble_eq_true rfl⟩) (hn := rfl) (hst := rfl) (hsum := Nat.le_of_ble_eq_true rfl) (hdg := dX7_readsRule_130) ?_
                        rintro S130 ⟨c130, hc130, hj130, hs130, hP130⟩
                        obtain ⟨⟨m130_92, m130_93, m130_94⟩, ⟨m130_95, m130_96⟩, ⟨m130_97, m130_98, m130_99, m130_100, m130_101⟩, ⟨m130_102, m130_103, m130_104⟩⟩ := hP130.1
                        refine g_at (pc2 := 133) rfl rfl (st2 := []) rfl (S2 := S130) rfl ?_
                        refine g_aload_n (pc := 133) hX 2 rfl dX7_readsRule_133 ?_
                        refine g_get (pc := 134) hX (ci := 7) (fun _ h => List.mem_cons_of_mem _ (List.mem_append_right _ h)) rfl 92 (by omega) m130_92 12 (by decide) (List.mem_of_getElem? (i := 5) rfl) rfl (v := .ref (gw_ad w 101)) rfl dX7_readsRule_134 ?_
                        refine g_aload_n (pc := 137) hX 2 rfl dX7_readsRule_137 ?_
                        refine g_get (pc := 138) hX (ci := 7) (fun _ h => List.mem_cons_of_mem _ (List.mem_append_right _ h)) rfl 92 (by omega) m130_92 13 (by decide) (List.mem_of_getElem? (i := 3) rfl) rfl (v := vI (wm2 - c130)) rfl dX7_readsRule_138 ?_
                        refine g_iload_n (pc := 141) hX 1 rfl dX7_readsRule_141 ?_
                        refine g_iast (pc := 142) hX 101 (by omega) m130_101 (by omega) (by omega) (by decide) dX7_readsRule_142 ?_
                        refine g_at rfl rfl rfl (S2 := (va_up S130 101 (AI w 64 (updZ (WT29) (wm2 - c130) (sgV TX xm at2))))) rfl ?_
                        refine g_aload_n (pc := 143) hX 2 rfl dX7_readsRule_143 ?_
                        refine g_dup (pc := 144) hX rfl dX7_readsRule_144 ?_
                        refine g_get (pc := 145) hX (ci := 7) (fun _ h => List.mem_cons_of_mem _ (List.mem_append_right _ h)) rfl 92 (by omega) (up_ne (by decide) m130_92) 13 (by decide) (List.mem_of_getElem? (i := 3) rfl) rfl (v := vI (wm2 - c130)) rfl dX7_readsRule_145 ?_
                        refine g_iconst (pc := 148) hX dX7_readsRule_148 ?_
                        refine g_iadd (pc := 149) hX dX7_readsRule_149 ?_
                        refine g_put (pc := 150) hX (ci := 7) (fun _ h => List.mem_cons_of_mem _ (List.mem_append_right _ h)) rfl tyX7 tyX7_ok nmX7 92 (by omega) (up_ne (by decide) m130_92) 13 (by decide) (List.mem_of_getElem? (i := 3) rfl) rfl rfl (tyX7_ok 13 (by decide)) rfl (fit_int _) (Nat.le_of_ble_eq_true rfl) dX7_readsRule_150 ?_
                        refine g_at rfl rfl rfl (S2 := (va_up (va_up S130 101 (AI w 64 (updZ (WT29) (wm2 - c130) (sgV TX xm at2)))) 92 (.inr (7, [.ref (gw_ad w 93), .ref (gw_ad w 94), vI (pm), .ref (gw_ad w 95), vI (tm), .ref (gw_ad w 96), vI (xm), vI (at2), .ref (gw_ad w 97), .ref (gw_ad w 98), .ref (gw_ad w 99), .ref (gw_ad w 100), .ref (gw_ad w 101), vI ((wm2 - c130) + 1), vI (kk), vI (bz (ir)), .ref (gw_ad w 102), .ref (gw_ad w 103), .ref (gw_ad w 104)])))) rfl ?_
                        refine g_aload_n (pc := 153) hX 2 rfl dX7_readsRule_153 ?_
                        refine g_dup (pc := 154) hX rfl dX7_readsRule_154 ?_
                        refine g_get (pc := 155) hX (ci := 7) (fun _ h => List.mem_cons_of_mem _ (List.mem_append_right _ h)) rfl 92 (by omega) (up_eq _ _ _) 7 (by decide) (List.mem_of_getElem? (i := 4) rfl) rfl (v := vI (at2)) rfl dX7_readsRule_155 ?_
                        refine g_iconst (pc := 158) hX dX7_readsRule_158 ?_
                        refine g_iadd (pc := 159) hX dX7_readsRule_159 ?_
                        refine g_put (pc := 160) hX (ci := 7) (fun _ h => List.mem_cons_of_mem _ (List.mem_append_right _ h)) rfl tyX7 tyX7_ok nmX7 92 (by omega) (up_eq _ _ _) 7 (by decide) (List.mem_of_getElem? (i := 4) rfl) rfl rfl (tyX7_ok 7 (by decide)) rfl (fit_int _) (Nat.le_of_ble_eq_true rfl) dX7_readsRule_160 ?_
                        refine g_at rfl rfl rfl (S2 := (va_up (va_up (va_up S130 101 (AI w 64 (updZ (WT29) (wm2 - c130) (sgV TX xm at2)))) 92 (.inr (7, [.ref (gw_ad w 93), .ref (gw_ad w 94), vI (pm), .ref (gw_ad w 95), vI (tm), .ref (gw_ad w 96), vI (xm), vI (at2), .ref (gw_ad w 97), .ref (gw_ad w 98), .ref (gw_ad w 99), .ref (gw_ad w 100), .ref (gw_ad w 101), vI ((wm2 - c130) + 1), vI (kk), vI (bz (ir)), .ref (gw_ad w 102), .ref (gw_ad w 103), .ref (gw_ad w 104)]))) 92 (.inr (7, [.ref (gw_ad w 93), .ref (gw_ad w 94), vI (pm), .ref (gw_ad w 95), vI (tm), .ref (gw_ad w 96), vI (xm), vI (at2 + 1), .ref (gw_ad w 97), .ref (gw_ad w 98), .ref (gw_ad w 99), .ref (gw_ad w 100), .ref (gw_ad w 101), vI ((wm2 - c130) + 1), vI (kk), vI (bz (ir)), .ref (gw_ad w 102), .ref (gw_ad w 103), .ref (gw_ad w 104)])))) rfl ?_
                        refine g_goto (pc := 163) (tgt := 24) hX dX7_readsRule_163 (by decide) ?_
                        refine g_sub (lv2 := [(0, .ref (gw_ad w 92)), (1, vI (kk)), (2, vI (1))]) [2, 3, 0] rfl ?_
                        exact ihlo (at2 + 1) ((wm2 - c130) + 1) (updZ (WT29) (wm2 - c130) (sgV TX xm at2)) (jnK MK2 WT29 kk (MM2 kk) wm2 c130.toNat) (updZ MM2 kk (MM2 kk + c130)) (1) _ (by omega) (show POSTM w S pm tm xm (at2 + 1) ((wm2 - c130) + 1) kk ir V PV TY TX (jnK MK2 WT29 kk (MM2 kk) wm2 c130.toNat) (updZ MM2 kk (MM2 kk + c130)) CH AM (updZ (WT29) (wm2 - c130) (sgV TX xm at2)) WK FL PI (va_up (va_up (va_up S130 101 (AI w 64 (updZ (WT29) (wm2 - c130) (sgV TX xm at2)))) 92 (.inr (7, [.ref (gw_ad w 93), .ref (gw_ad w 94), vI (pm), .ref (gw_ad w 95), vI (tm), .ref (gw_ad w 96), vI (xm), vI (at2), .ref (gw_ad w 97), .ref (gw_ad w 98), .ref (gw_ad w 99), .ref (gw_ad w 100), .ref (gw_ad w 101), vI ((wm2 - c130) + 1), vI (kk), vI (bz (ir)), .ref (gw_ad w 102), .ref (gw_ad w 103), .ref (gw_ad w 104)]))) 92 (.inr (7, [.ref (gw_ad w 93), .ref (gw_ad w 94), vI (pm), .ref (gw_ad w 95), vI (tm), .ref (gw_ad w 96), vI (xm), vI (at2 + 1), .ref (gw_ad w 97), .ref (gw_ad w 98), .ref (gw_ad w 99), .ref (gw_ad w 100), .ref (gw_ad w 101), vI ((wm2 - c130) + 1), vI (kk), vI (bz (ir)), .ref (gw_ad w 102), .ref (gw_ad w 103), .ref (gw_ad w 104)]))) from ⟨⟨⟨(up_eq _ _ _), (up_ne (by decide) (up_ne (by decide) (up_ne (by decide) m130_93))), (up_ne (by decide) (up_ne (by decide) (up_ne (by decide) m130_94)))⟩, ⟨(up_ne (by decide) (up_ne (by decide) (up_ne (by decide) m130_95))), (up_ne (by decide) (up_ne (by decide) (up_ne (by decide) m130_96)))⟩, ⟨(up_ne (by decide) (up_ne (by decide) (up_ne (by decide) m130_97))), (up_ne (by decide) (up_ne (by decide) (up_ne (by decide) m130_98))), (up_ne (by decide) (up_ne (by decide) (up_ne (by decide) m130_99))), (up_ne (by decide) (up_ne (by decide) (up_ne (by decide) m130_100))), (up_ne (by decide) (up_ne (by decide) (up_eq _ _ _)))⟩, ⟨(up_ne (by decide) (up_ne (by decide) (up_ne (by decide) m130_102))), (up_ne (by decide) (up_ne (by decide) (up_ne (by decide) m130_103))), (up_ne (by decide) (up_ne (by decide) (up_ne (by decide) m130_104)))⟩⟩, fun q hq => (up_ne (by omega) (up_ne (by omega) (up_ne (by omega) ((hP130.2 q hq).trans ((hQli.2 q hq).trans rfl)))))⟩) (⟨⟨by omega, by omega⟩, by omega, by rw [updZ_eq]; omega, by rw [updZ_eq]; omega⟩) (updZ_in hW29 (sgV_in hTX _ _)) (hF2.jn (by omega)) (Or.inl ⟨rfl, by simp only [updZ_eq]; rw [sgV_e hlt]; exact JC_link hJ2 hlt hxm.2 hb2.2.2.1 hb2.2.1 (Or.inl hcx) hc130 (by rw [if_pos hcx]; exact hj130) (by rw [if_pos hcx]; exact hs130)⟩)
                  · skip
                    refine g_iload_n (pc := 102) hX 0 rfl dX7_readsRule_102 ?_
                    refine g_bipush (pc := 103) hX (by decide) dX7_readsRule_103 ?_
                    refine g_icmp_ne (pc := 105) (tgt := 112) hX hs2 (by first | assumption | exact inI_mk (by omega) (by omega)) dX7_readsRule_105 (by decide) (fun c_105 => ?_) (fun c_105 => ?_)
                    · skip
                      refine g_iconst (pc := 112) hX dX7_readsRule_112 ?_
                      refine g_istore_n (pc := 113) hX (lv2 := [(2, vI (0)), (3, vI (sgV TX xm at2)), (0, .ref (gw_ad w 92)), (1, vI (kk))]) rfl (by decide) rfl dX7_readsRule_113 ?_
                      refine g_iload_n (pc := 114) hX 0 rfl dX7_readsRule_114 ?_
                      refine g_if_eq (pc := 115) (tgt := 163) hX (by first | assumption | exact inI_mk (by omega) (by omega)) dX7_readsRule_115 (by decide) (fun c_115 => ?_) (fun c_115 => ?_)
                      · skip
                        refine g_goto (pc := 163) (tgt := 24) hX dX7_readsRule_163 (by decide) ?_
                        refine g_sub (lv2 := [(0, .ref (gw_ad w 92)), (1, vI (kk)), (2, vI (0))]) [2, 3, 0] rfl ?_
                        exact ihlo (at2) (wm2) (WT29) (MK2) (MM2) (0) _ (by omega) (show POSTM w S pm tm xm at2 wm2 kk ir V PV TY TX MK2 MM2 CH AM WT29 WK FL PI Sli from ⟨⟨⟨li_92, li_93, li_94⟩, ⟨li_95, li_96⟩, ⟨li_97, li_98, li_99, li_100, li_101⟩, ⟨li_102, li_103, li_104⟩⟩, fun q hq => ((hQli.2 q hq).trans rfl)⟩) (⟨⟨by omega, by omega⟩, by omega, by omega, by omega⟩) (hW29) (hF2) (Or.inr ⟨rfl, hJ2, by omega, by omega, fun z => by rw [← opN_wl]; have := opN_r WT29 wm2.toNat; omega⟩)
                      · skip
                        exact absurd c_115 (by omega)
                    · skip
                      refine g_iconst (pc := 108) hX dX7_readsRule_108 ?_
                      refine g_goto (pc := 109) (tgt := 113) hX dX7_readsRule_109 (by decide) ?_
                      refine g_istore_n (pc := 113) hX (lv2 := [(2, vI (1)), (3, vI (sgV TX xm at2)), (0, .ref (gw_ad w 92)), (1, vI (kk))]) rfl (by decide) rfl dX7_readsRule_113 ?_
                      refine g_iload_n (pc := 114) hX 0 rfl dX7_readsRule_114 ?_
                      refine g_if_eq (pc := 115) (tgt := 163) hX (by first | assumption | exact inI_mk (by omega) (by omega)) dX7_readsRule_115 (by decide) (fun c_115 => ?_) (fun c_115 => ?_)
                      · skip
                        exact absurd c_115 (by omega)
                      · skip
                        have hlt : at2 < xm := sgV_lt (TX := TX) (by omega)
                        have hcx : TX at2 = 124 := by rw [← sgV_e (TX := TX) hlt]; omega
                        refine g_aload_n (pc := 118) hX 2 rfl dX7_readsRule_118 ?_
                        refine g_iload_n (pc := 119) hX 1 rfl dX7_readsRule_119 ?_
                        refine g_bipush (pc := 120) hX (by decide) dX7_readsRule_120 ?_
                        refine g_icmp_ne (pc := 122) (tgt := 129) hX hs2 (by first | assumption | exact inI_mk (by omega) (by omega)) dX7_readsRule_122 (by decide) (fun c_122 => ?_) (fun c_122 => ?_)
                        · skip
                          refine g_iconst (pc := 129) hX dX7_readsRule_129 ?_
                          refine g_callV0 (pc := 130) (ci := 7) (As := [vI (2)]) (st2 := []) hX 92 (by omega) li_92 rfl (c_X7_settles hN (show modelAt w pm tm xm at2 wm2 kk ir V PV TY TX MK2 MM2 CH AM WT29 WK FL PI Sli from ⟨⟨li_92, li_93, li_94⟩, ⟨li_95, li_96⟩, ⟨li_97, li_98, li_99, li_100, li_101⟩, ⟨li_102, li_103, li_104⟩⟩) hwh ⟨hb2.2.2.1, hb2.2.1, by omega⟩ hW29 (dd := 2) (by decide)) gX7_readsRule_X7_settles (n := 1) (hw := rfl) (hrc := rfl) (hrs := rfl) (hd := by decide +kernel) (hR := ⟨Nat.le_of_ble_eq_true rfl, Nat.le_of_ble_eq_true rfl⟩) (hn := rfl) (hst := rfl) (hsum := Nat.le_of_ble_eq_true rfl) (hdg := dX7_readsRule_130) ?_
                          rintro S130 ⟨c130, hc130, hj130, hs130, hP130⟩
                          obtain ⟨⟨m130_92, m130_93, m130_94⟩, ⟨m130_95, m130_96⟩, ⟨m130_97, m130_98, m130_99, m130_100, m130_101⟩, ⟨m130_102, m130_103, m130_104⟩⟩ := hP130.1
                          refine g_at (pc2 := 133) rfl rfl (st2 := []) rfl (S2 := S130) rfl ?_
                          refine g_aload_n (pc := 133) hX 2 rfl dX7_readsRule_133 ?_
                          refine g_get (pc := 134) hX (ci := 7) (fun _ h => List.mem_cons_of_mem _ (List.mem_append_right _ h)) rfl 92 (by omega) m130_92 12 (by decide) (List.mem_of_getElem? (i := 5) rfl) rfl (v := .ref (gw_ad w 101)) rfl dX7_readsRule_134 ?_
                          refine g_aload_n (pc := 137) hX 2 rfl dX7_readsRule_137 ?_
                          refine g_get (pc := 138) hX (ci := 7) (fun _ h => List.mem_cons_of_mem _ (List.mem_append_right _ h)) rfl 92 (by omega) m130_92 13 (by decide) (List.mem_of_getElem? (i := 3) rfl) rfl (v := vI (wm2 - c130)) rfl dX7_readsRule_138 ?_
                          refine g_iload_n (pc := 141) hX 1 rfl dX7_readsRule_141 ?_
                          refine g_iast (pc := 142) hX 101 (by omega) m130_101 (by omega) (by omega) (by decide) dX7_readsRule_142 ?_
                          refine g_at rfl rfl rfl (S2 := (va_up S130 101 (AI w 64 (updZ (WT29) (wm2 - c130) (sgV TX xm at2))))) rfl ?_
                          refine g_aload_n (pc := 143) hX 2 rfl dX7_readsRule_143 ?_
                          refine g_dup (pc := 144) hX rfl dX7_readsRule_144 ?_
                          refine g_get (pc := 145) hX (ci := 7) (fun _ h => List.mem_cons_of_mem _ (List.mem_append_right _ h)) rfl 92 (by omega) (up_ne (by decide) m130_92) 13 (by decide) (List.mem_of_getElem? (i := 3) rfl) rfl (v := vI (wm2 - c130)) rfl dX7_readsRule_145 ?_
                          refine g_iconst (pc := 148) hX dX7_readsRule_148 ?_
                          refine g_iadd (pc := 149) hX dX7_readsRule_149 ?_
                          refine g_put (pc := 150) hX (ci := 7) (fun _ h => List.mem_cons_of_mem _ (List.mem_append_right _ h)) rfl tyX7 tyX7_ok nmX7 92 (by omega) (up_ne (by decide) m130_92) 13 (by decide) (List.mem_of_getElem? (i := 3) rfl) rfl rfl (tyX7_ok 13 (by decide)) rfl (fit_int _) (Nat.le_of_ble_eq_true rfl) dX7_readsRule_150 ?_
                          refine g_at rfl rfl rfl (S2 := (va_up (va_up S130 101 (AI w 64 (updZ (WT29) (wm2 - c130) (sgV TX xm at2)))) 92 (.inr (7, [.ref (gw_ad w 93), .ref (gw_ad w 94), vI (pm), .ref (gw_ad w 95), vI (tm), .ref (gw_ad w 96), vI (xm), vI (at2), .ref (gw_ad w 97), .ref (gw_ad w 98), .ref (gw_ad w 99), .ref (gw_ad w 100), .ref (gw_ad w 101), vI ((wm2 - c130) + 1), vI (kk), vI (bz (ir)), .ref (gw_ad w 102), .ref (gw_ad w 103), .ref (gw_ad w 104)])))) rfl ?_
                          refine g_aload_n (pc := 153) hX 2 rfl dX7_readsRule_153 ?_
                          refine g_dup (pc := 154) hX rfl dX7_readsRule_154 ?_
                          refine g_get (pc := 155) hX (ci := 7) (fun _ h => List.mem_cons_of_mem _ (List.mem_append_right _ h)) rfl 92 (by omega) (up_eq _ _ _) 7 (by decide) (List.mem_of_getElem? (i := 4) rfl) rfl (v := vI (at2)) rfl dX7_readsRule_155 ?_
                          refine g_iconst (pc := 158) hX dX7_readsRule_158 ?_
                          refine g_iadd (pc := 159) hX dX7_readsRule_159 ?_
                          refine g_put (pc := 160) hX (ci := 7) (fun _ h => List.mem_cons_of_mem _ (List.mem_append_right _ h)) rfl tyX7 tyX7_ok nmX7 92 (by omega) (up_eq _ _ _) 7 (by decide) (List.mem_of_getElem? (i := 4) rfl) rfl rfl (tyX7_ok 7 (by decide)) rfl (fit_int _) (Nat.le_of_ble_eq_true rfl) dX7_readsRule_160 ?_
                          refine g_at rfl rfl rfl (S2 := (va_up (va_up (va_up S130 101 (AI w 64 (updZ (WT29) (wm2 - c130) (sgV TX xm at2)))) 92 (.inr (7, [.ref (gw_ad w 93), .ref (gw_ad w 94), vI (pm), .ref (gw_ad w 95), vI (tm), .ref (gw_ad w 96), vI (xm), vI (at2), .ref (gw_ad w 97), .ref (gw_ad w 98), .ref (gw_ad w 99), .ref (gw_ad w 100), .ref (gw_ad w 101), vI ((wm2 - c130) + 1), vI (kk), vI (bz (ir)), .ref (gw_ad w 102), .ref (gw_ad w 103), .ref (gw_ad w 104)]))) 92 (.inr (7, [.ref (gw_ad w 93), .ref (gw_ad w 94), vI (pm), .ref (gw_ad w 95), vI (tm), .ref (gw_ad w 96), vI (xm), vI (at2 + 1), .ref (gw_ad w 97), .ref (gw_ad w 98), .ref (gw_ad w 99), .ref (gw_ad w 100), .ref (gw_ad w 101), vI ((wm2 - c130) + 1), vI (kk), vI (bz (ir)), .ref (gw_ad w 102), .ref (gw_ad w 103), .ref (gw_ad w 104)])))) rfl ?_
                          refine g_goto (pc := 163) (tgt := 24) hX dX7_readsRule_163 (by decide) ?_
                          refine g_sub (lv2 := [(0, .ref (gw_ad w 92)), (1, vI (kk)), (2, vI (1))]) [2, 3, 0] rfl ?_
                          exact ihlo (at2 + 1) ((wm2 - c130) + 1) (updZ (WT29) (wm2 - c130) (sgV TX xm at2)) (jnK MK2 WT29 kk (MM2 kk) wm2 c130.toNat) (updZ MM2 kk (MM2 kk + c130)) (1) _ (by omega) (show POSTM w S pm tm xm (at2 + 1) ((wm2 - c130) + 1) kk ir V PV TY TX (jnK MK2 WT29 kk (MM2 kk) wm2 c130.toNat) (updZ MM2 kk (MM2 kk + c130)) CH AM (updZ (WT29) (wm2 - c130) (sgV TX xm at2)) WK FL PI (va_up (va_up (va_up S130 101 (AI w 64 (updZ (WT29) (wm2 - c130) (sgV TX xm at2)))) 92 (.inr (7, [.ref (gw_ad w 93), .ref (gw_ad w 94), vI (pm), .ref (gw_ad w 95), vI (tm), .ref (gw_ad w 96), vI (xm), vI (at2), .ref (gw_ad w 97), .ref (gw_ad w 98), .ref (gw_ad w 99), .ref (gw_ad w 100), .ref (gw_ad w 101), vI ((wm2 - c130) + 1), vI (kk), vI (bz (ir)), .ref (gw_ad w 102), .ref (gw_ad w 103), .ref (gw_ad w 104)]))) 92 (.inr (7, [.ref (gw_ad w 93), .ref (gw_ad w 94), vI (pm), .ref (gw_ad w 95), vI (tm), .ref (gw_ad w 96), vI (xm), vI (at2 + 1), .ref (gw_ad w 97), .ref (gw_ad w 98), .ref (gw_ad w 99), .ref (gw_ad w 100), .ref (gw_ad w 101), vI ((wm2 - c130) + 1), vI (kk), vI (bz (ir)), .ref (gw_ad w 102), .ref (gw_ad w 103), .ref (gw_ad w 104)]))) from ⟨⟨⟨(up_eq _ _ _), (up_ne (by decide) (up_ne (by decide) (up_ne (by decide) m130_93))), (up_ne (by decide) (up_ne (by decide) (up_ne (by decide) m130_94)))⟩, ⟨(up_ne (by decide) (up_ne (by decide) (up_ne (by decide) m130_95))), (up_ne (by decide) (up_ne (by decide) (up_ne (by decide) m130_96)))⟩, ⟨(up_ne (by decide) (up_ne (by decide) (up_ne (by decide) m130_97))), (up_ne (by decide) (up_ne (by decide) (up_ne (by decide) m130_98))), (up_ne (by decide) (up_ne (by decide) (up_ne (by decide) m130_99))), (up_ne (by decide) (up_ne (by decide) (up_ne (by decide) m130_100))), (up_ne (by decide) (up_ne (by decide) (up_eq _ _ _)))⟩, ⟨(up_ne (by decide) (up_ne (by decide) (up_ne (by decide) m130_102))), (up_ne (by decide) (up_ne (by decide) (up_ne (by decide) m130_103))), (up_ne (by decide) (up_ne (by decide) (up_ne (by decide) m130_104)))⟩⟩, fun q hq => (up_ne (by omega) (up_ne (by omega) (up_ne (by omega) ((hP130.2 q hq).trans ((hQli.2 q hq).trans rfl)))))⟩) (⟨⟨by omega, by omega⟩, by omega, by rw [updZ_eq]; omega, by rw [updZ_eq]; omega⟩) (updZ_in hW29 (sgV_in hTX _ _)) (hF2.jn (by omega)) (Or.inl ⟨rfl, by simp only [updZ_eq]; rw [sgV_e hlt]; exact JC_link hJ2 hlt hxm.2 hb2.2.2.1 hb2.2.1 (Or.inr hcx) hc130 (by rw [if_neg (show ¬ TX at2 = 38 by omega)]; exact hj130) (by rw [if_neg (show ¬ TX at2 = 38 by omega)]; exact hs130)⟩)
                        · skip
                          exact absurd c_122 c_99
                · skip
                  have hlt : at2 < xm := sgV_lt (TX := TX) (by omega)
                  have hcx : TX at2 = 41 := by rw [← sgV_e (TX := TX) hlt]; omega
                  have hopx : 0 < nOp (wl WT29 wm2.toNat) := by rw [← opN_wl]; omega
                  refine g_aload_n (pc := 58) hX 0 rfl dX7_readsRule_58 ?_
                  refine g_iconst (pc := 59) hX dX7_readsRule_59 ?_
                  refine g_callV0 (pc := 60) (ci := 7) (As := [vI (2)]) (st2 := []) hX 92 (by omega) li_92 rfl (c_X7_settles hN (show modelAt w pm tm xm at2 wm2 kk ir V PV TY TX MK2 MM2 CH AM WT29 WK FL PI Sli from ⟨⟨li_92, li_93, li_94⟩, ⟨li_95, li_96⟩, ⟨li_97, li_98, li_99, li_100, li_101⟩, ⟨li_102, li_103, li_104⟩⟩) hwh ⟨hb2.2.2.1, hb2.2.1, by omega⟩ hW29 (dd := 2) (by decide)) gX7_readsRule_X7_settles (n := 1) (hw := rfl) (hrc := rfl) (hrs := rfl) (hd := by decide +kernel) (hR := ⟨Nat.le_of_ble_eq_true rfl, Nat.le_of_ble_eq_true rfl⟩) (hn := rfl) (hst := rfl) (hsum := Nat.le_of_ble_eq_true rfl) (hdg := dX7_readsRule_60) ?_
                  rintro S60 ⟨c60, hc60, hj60, hs60, hP60⟩
                  obtain ⟨⟨m60_92, m60_93, m60_94⟩, ⟨m60_95, m60_96⟩, ⟨m60_97, m60_98, m60_99, m60_100, m60_101⟩, ⟨m60_102, m60_103, m60_104⟩⟩ := hP60.1
                  refine g_at (pc2 := 63) rfl rfl (st2 := []) rfl (S2 := S60) rfl ?_
                  have hw60 := (JC_close (d := 0) hJ2 hlt hxm.2 hb2.2.2.1 hb2.2.1 hcx hopx hc60 hj60 hs60 rfl).1
                  refine g_aload_n (pc := 63) hX 0 rfl dX7_readsRule_63 ?_
                  refine g_dup (pc := 64) hX rfl dX7_readsRule_64 ?_
                  refine g_get (pc := 65) hX (ci := 7) (fun _ h => List.mem_cons_of_mem _ (List.mem_append_right _ h)) rfl 92 (by omega) m60_92 13 (by decide) (List.mem_of_getElem? (i := 3) rfl) rfl (v := vI (wm2 - c60)) rfl dX7_readsRule_65 ?_
                  refine g_iconst (pc := 68) hX dX7_readsRule_68 ?_
                  refine g_isub (pc := 69) hX dX7_readsRule_69 ?_
                  refine g_put (pc := 70) hX (ci := 7) (fun _ h => List.mem_cons_of_mem _ (List.mem_append_right _ h)) rfl tyX7 tyX7_ok nmX7 92 (by omega) m60_92 13 (by decide) (List.mem_of_getElem? (i := 3) rfl) rfl rfl (tyX7_ok 13 (by decide)) rfl (fit_int _) (Nat.le_of_ble_eq_true rfl) dX7_readsRule_70 ?_
                  refine g_at rfl rfl rfl (S2 := (va_up S60 92 (.inr (7, [.ref (gw_ad w 93), .ref (gw_ad w 94), vI (pm), .ref (gw_ad w 95), vI (tm), .ref (gw_ad w 96), vI (xm), vI (at2), .ref (gw_ad w 97), .ref (gw_ad w 98), .ref (gw_ad w 99), .ref (gw_ad w 100), .ref (gw_ad w 101), vI ((wm2 - c60) - 1), vI (kk), vI (bz (ir)), .ref (gw_ad w 102), .ref (gw_ad w 103), .ref (gw_ad w 104)])))) rfl ?_
                  refine g_aload_n (pc := 73) hX 0 rfl dX7_readsRule_73 ?_
                  refine g_dup (pc := 74) hX rfl dX7_readsRule_74 ?_
                  refine g_get (pc := 75) hX (ci := 7) (fun _ h => List.mem_cons_of_mem _ (List.mem_append_right _ h)) rfl 92 (by omega) (up_eq _ _ _) 7 (by decide) (List.mem_of_getElem? (i := 4) rfl) rfl (v := vI (at2)) rfl dX7_readsRule_75 ?_
                  refine g_iconst (pc := 78) hX dX7_readsRule_78 ?_
                  refine g_iadd (pc := 79) hX dX7_readsRule_79 ?_
                  refine g_put (pc := 80) hX (ci := 7) (fun _ h => List.mem_cons_of_mem _ (List.mem_append_right _ h)) rfl tyX7 tyX7_ok nmX7 92 (by omega) (up_eq _ _ _) 7 (by decide) (List.mem_of_getElem? (i := 4) rfl) rfl rfl (tyX7_ok 7 (by decide)) rfl (fit_int _) (Nat.le_of_ble_eq_true rfl) dX7_readsRule_80 ?_
                  refine g_at rfl rfl rfl (S2 := (va_up (va_up S60 92 (.inr (7, [.ref (gw_ad w 93), .ref (gw_ad w 94), vI (pm), .ref (gw_ad w 95), vI (tm), .ref (gw_ad w 96), vI (xm), vI (at2), .ref (gw_ad w 97), .ref (gw_ad w 98), .ref (gw_ad w 99), .ref (gw_ad w 100), .ref (gw_ad w 101), vI ((wm2 - c60) - 1), vI (kk), vI (bz (ir)), .ref (gw_ad w 102), .ref (gw_ad w 103), .ref (gw_ad w 104)]))) 92 (.inr (7, [.ref (gw_ad w 93), .ref (gw_ad w 94), vI (pm), .ref (gw_ad w 95), vI (tm), .ref (gw_ad w 96), vI (xm), vI (at2 + 1), .ref (gw_ad w 97), .ref (gw_ad w 98), .ref (gw_ad w 99), .ref (gw_ad w 100), .ref (gw_ad w 101), vI ((wm2 - c60) - 1), vI (kk), vI (bz (ir)), .ref (gw_ad w 102), .ref (gw_ad w 103), .ref (gw_ad w 104)])))) rfl ?_
                  refine g_aload_n (pc := 83) hX 0 rfl dX7_readsRule_83 ?_
                  refine g_iconst (pc := 84) hX dX7_readsRule_84 ?_
                  refine g_callV0 (pc := 85) (ci := 7) (As := [vI (0)]) (st2 := []) hX 92 (by omega) (up_eq _ _ _) rfl (c_X7_settles hN (show modelAt w pm tm xm (at2 + 1) ((wm2 - c60) - 1) kk ir V PV TY TX (jnK MK2 WT29 kk (MM2 kk) wm2 c60.toNat) (updZ MM2 kk (MM2 kk + c60)) CH AM WT29 WK FL PI (va_up (va_up S60 92 (.inr (7, [.ref (gw_ad w 93), .ref (gw_ad w 94), vI (pm), .ref (gw_ad w 95), vI (tm), .ref (gw_ad w 96), vI (xm), vI (at2), .ref (gw_ad w 97), .ref (gw_ad w 98), .ref (gw_ad w 99), .ref (gw_ad w 100), .ref (gw_ad w 101), vI ((wm2 - c60) - 1), vI (kk), vI (bz (ir)), .ref (gw_ad w 102), .ref (gw_ad w 103), .ref (gw_ad w 104)]))) 92 (.inr (7, [.ref (gw_ad w 93), .ref (gw_ad w 94), vI (pm), .ref (gw_ad w 95), vI (tm), .ref (gw_ad w 96), vI (xm), vI (at2 + 1), .ref (gw_ad w 97), .ref (gw_ad w 98), .ref (gw_ad w 99), .ref (gw_ad w 100), .ref (gw_ad w 101), vI ((wm2 - c60) - 1), vI (kk), vI (bz (ir)), .ref (gw_ad w 102), .ref (gw_ad w 103), .ref (gw_ad w 104)]))) from ⟨⟨(up_eq _ _ _), (up_ne (by decide) (up_ne (by decide) m60_93)), (up_ne (by decide) (up_ne (by decide) m60_94))⟩, ⟨(up_ne (by decide) (up_ne (by decide) m60_95)), (up_ne (by decide) (up_ne (by decide) m60_96))⟩, ⟨(up_ne (by decide) (up_ne (by decide) m60_97)), (up_ne (by decide) (up_ne (by decide) m60_98)), (up_ne (by decide) (up_ne (by decide) m60_99)), (up_ne (by decide) (up_ne (by decide) m60_100)), (up_ne (by decide) (up_ne (by decide) m60_101))⟩, ⟨(up_ne (by decide) (up_ne (by decide) m60_102)), (up_ne (by decide) (up_ne (by decide) m60_103)), (up_ne (by decide) (up_ne (by decide) m60_104))⟩⟩) hwh ⟨by rw [updZ_eq]; omega, by omega, by rw [updZ_eq]; omega⟩ hW29 (dd := 0) (by decide)) gX7_readsRule_X7_settles (n := 1) (hw := rfl) (hrc := rfl) (hrs := rfl) (hd := by decide +kernel) (hR := ⟨Nat.le_of_ble_eq_true rfl, Nat.le_of_ble_eq_true rfl⟩) (hn := rfl) (hst := rfl) (hsum := Nat.le_of_ble_eq_true rfl) (hdg := dX7_readsRule_85) ?_
                  rintro S85 ⟨c85, hc85, hj85, hs85, hP85⟩
                  obtain ⟨⟨m85_92, m85_93, m85_94⟩, ⟨m85_95, m85_96⟩, ⟨m85_97, m85_98, m85_99, m85_100, m85_101⟩, ⟨m85_102, m85_103, m85_104⟩⟩ := hP85.1
                  refine g_at (pc2 := 88) rfl rfl (st2 := []) rfl (S2 := S85) rfl ?_
                  refine g_goto (pc := 88) (tgt := 42) hX dX7_readsRule_88 (by decide) ?_
                  refine g_sub (lv2 := [(0, .ref (gw_ad w 92)), (1, vI (kk)), (2, vI (r))]) [0, 1, 2] rfl ?_
                  exact ihli (at2 + 1) (((wm2 - c60) - 1) - c85) (jnK (jnK MK2 WT29 kk (MM2 kk) wm2 c60.toNat) WT29 kk ((updZ MM2 kk (MM2 kk + c60)) kk) ((wm2 - c60) - 1) c85.toNat) (updZ (updZ MM2 kk (MM2 kk + c60)) kk ((updZ MM2 kk (MM2 kk + c60)) kk + c85)) _ (by omega) (show POSTM w S pm tm xm (at2 + 1) (((wm2 - c60) - 1) - c85) kk ir V PV TY TX (jnK (jnK MK2 WT29 kk (MM2 kk) wm2 c60.toNat) WT29 kk ((updZ MM2 kk (MM2 kk + c60)) kk) ((wm2 - c60) - 1) c85.toNat) (updZ (updZ MM2 kk (MM2 kk + c60)) kk ((updZ MM2 kk (MM2 kk + c60)) kk + c85)) CH AM WT29 WK FL PI S85 from ⟨⟨⟨m85_92, m85_93, m85_94⟩, ⟨m85_95, m85_96⟩, ⟨m85_97, m85_98, m85_99, m85_100, m85_101⟩, ⟨m85_102, m85_103, m85_104⟩⟩, fun q hq => ((hP85.2 q hq).trans (up_ne (by omega) (up_ne (by omega) ((hP60.2 q hq).trans ((hQli.2 q hq).trans rfl)))))⟩) (⟨⟨by omega, by omega⟩, by omega, by simp only [updZ_eq]; omega, by simp only [updZ_eq]; omega⟩) ((hF2.jn (by omega)).jn (by simp only [updZ_eq]; omega)) (by simp only [updZ_eq]; exact (JC_close hJ2 hlt hxm.2 hb2.2.2.1 hb2.2.1 hcx hopx hc60 hj60 hs60 rfl).2 hc85 hj85 hs85)
          refine g_sub (lv2 := [(0, .ref (gw_ad w 92)), (1, vI (kk)), (2, vI (r))]) [0, 1, 2] rfl ?_
          exact li ((xm - at29) + 1).toNat (at29) (wm29 - c39) (jnK MK29 WT29 kk (MM29 kk) wm29 c39.toNat) (updZ MM29 kk (MM29 kk + c39)) _ (by omega) (show POSTM w S pm tm xm at29 (wm29 - c39) kk ir V PV TY TX (jnK MK29 WT29 kk (MM29 kk) wm29 c39.toNat) (updZ MM29 kk (MM29 kk + c39)) CH AM WT29 WK FL PI S39 from ⟨⟨⟨m39_92, m39_93, m39_94⟩, ⟨m39_95, m39_96⟩, ⟨m39_97, m39_98, m39_99, m39_100, m39_101⟩, ⟨m39_102, m39_103, m39_104⟩⟩, fun q hq => ((hP39.2 q hq).trans ((hP29.2 q hq).trans ((hQlo.2 q hq).trans rfl)))⟩) (⟨⟨by omega, by omega⟩, by omega, by rw [updZ_eq]; omega, by rw [updZ_eq]; omega⟩) ((hF.trans hF29).jn (by omega)) (by rw [updZ_eq]; exact hjd.2 c39 hc39 hj39 hs39)
        · skip
          refine g_iconst (pc := 35) hX dX7_readsRule_35 ?_
          refine g_at rfl rfl (st2 := [vI (bz false)]) rfl rfl ?_
          refine g_zret (pc := 36) hX hR dX7_readsRule_36 ?_
          exact ⟨_, _, _, _, _, _, _, ⟨⟨⟨m29_92, m29_93, m29_94⟩, ⟨m29_95, m29_96⟩, ⟨m29_97, m29_98, m29_99, m29_100, m29_101⟩, ⟨m29_102, m29_103, m29_104⟩⟩, fun q hq => ((hP29.2 q hq).trans ((hQlo.2 q hq).trans rfl))⟩, ⟨by omega, by omega⟩, hW29, hF.trans hF29, ⟨by omega, by omega⟩, fun j _ => ⟨rfl, rfl⟩, Or.inr ⟨rfl, hs29 c_32⟩⟩
  refine g_sub (lv2 := [(0, .ref (gw_ad w 92)), (1, vI (kk)), (2, vI (1))]) [1, 2, 0] rfl ?_
  exact lo ((xm - 0) + 1).toNat (0) (0) (WT) (MK) (updZ (MM) (kk) (0)) (1) _ (by omega) (show POSTM w S pm tm xm 0 0 kk ir V PV TY TX MK (updZ (MM) (kk) (0)) CH AM WT WK FL PI (va_up (va_up (va_up (va_up S 92 (.inr (7, [.ref (gw_ad w 93), .ref (gw_ad w 94), vI (pm), .ref (gw_ad w 95), vI (tm), .ref (gw_ad w 96), vI (xm), vI (at_), .ref (gw_ad w 97), .ref (gw_ad w 98), .ref (gw_ad w 99), .ref (gw_ad w 100), .ref (gw_ad w 101), vI (wm), vI (kk), vI (bz (ir)), .ref (gw_ad w 102), .ref (gw_ad w 103), .ref (gw_ad w 104)]))) 98 (AI w 8 (updZ (MM) (kk) (0)))) 92 (.inr (7, [.ref (gw_ad w 93), .ref (gw_ad w 94), vI (pm), .ref (gw_ad w 95), vI (tm), .ref (gw_ad w 96), vI (xm), vI (at_), .ref (gw_ad w 97), .ref (gw_ad w 98), .ref (gw_ad w 99), .ref (gw_ad w 100), .ref (gw_ad w 101), vI (0), vI (kk), vI (bz (ir)), .ref (gw_ad w 102), .ref (gw_ad w 103), .ref (gw_ad w 104)]))) 92 (.inr (7, [.ref (gw_ad w 93), .ref (gw_ad w 94), vI (pm), .ref (gw_ad w 95), vI (tm), .ref (gw_ad w 96), vI (xm), vI (0), .ref (gw_ad w 97), .ref (gw_ad w 98), .ref (gw_ad w 99), .ref (gw_ad w 100), .ref (gw_ad w 101), vI (0), vI (kk), vI (bz (ir)), .ref (gw_ad w 102), .ref (gw_ad w 103), .ref (gw_ad w 104)]))) from ⟨⟨⟨(up_eq _ _ _), (up_ne (by decide) (up_ne (by decide) (up_ne (by decide) (up_ne (by decide) m93)))), (up_ne (by decide) (up_ne (by decide) (up_ne (by decide) (up_ne (by decide) m94))))⟩, ⟨(up_ne (by decide) (up_ne (by decide) (up_ne (by decide) (up_ne (by decide) m95)))), (up_ne (by decide) (up_ne (by decide) (up_ne (by decide) (up_ne (by decide) m96))))⟩, ⟨(up_ne (by decide) (up_ne (by decide) (up_ne (by decide) (up_ne (by decide) m97)))), (up_ne (by decide) (up_ne (by decide) (up_eq _ _ _))), (up_ne (by decide) (up_ne (by decide) (up_ne (by decide) (up_ne (by decide) m99)))), (up_ne (by decide) (up_ne (by decide) (up_ne (by decide) (up_ne (by decide) m100)))), (up_ne (by decide) (up_ne (by decide) (up_ne (by decide) (up_ne (by decide) m101))))⟩, ⟨(up_ne (by decide) (up_ne (by decide) (up_ne (by decide) (up_ne (by decide) m102)))), (up_ne (by decide) (up_ne (by decide) (up_ne (by decide) (up_ne (by decide) m103)))), (up_ne (by decide) (up_ne (by decide) (up_ne (by decide) (up_ne (by decide) m104))))⟩⟩, fun q hq => (up_ne (by omega) (up_ne (by omega) (up_ne (by omega) (up_ne (by omega) rfl))))⟩) (⟨⟨by omega, by omega⟩, by omega, by rw [updZ_eq]; omega, by rw [updZ_eq]; omega⟩) (hWT) (FRM.cut) (Or.inl ⟨rfl, by rw [updZ_eq]; exact JB_0 kk WT MK h00 h04 h05⟩)
