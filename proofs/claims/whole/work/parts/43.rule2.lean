/-! ===== the reference: a rule typed, the rules read again ===== -/
theorem rdGo_c {B B2 : Int → Int} : ∀ (k : Nat) (i : Int) (s : rdS), (∀ j : Int, i ≤ j → j < i + k → B j = B2 j) → rdGo B k i s = rdGo B2 k i s
  | 0, _, _, _ => rfl
  | k + 1, i, s, h => by
    show (if (rdAll (B i) s).1 = true then rdGo B k (i + 1) (rdAll (B i) s).2 else (i, (rdAll (B i) s).2)) = (if (rdAll (B2 i) s).1 = true then rdGo B2 k (i + 1) (rdAll (B2 i) s).2 else (i, (rdAll (B2 i) s).2))
    rw [h i (Int.le_refl i) (by omega), rdGo_c k (i + 1) _ (fun j a b => h j (by omega) (by omega))]
theorem MR_c {M M2 : Int → Int} {k n : Int} {P : (Int → Bool) → List Bool} (h : MR M k n P) (hn : n ≤ 64) (he : ∀ j : Int, 200 * k ≤ j → j < 200 * k + 200 → M2 j = M j) : MR M2 k n P := by
  obtain ⟨h1, h2, h3⟩ := h
  have hc : ∀ m : Nat, (m : Int) ≤ 64 → ∀ j : Int, 200 * k ≤ j → j < 200 * k + 3 * m → M2 j = M j := fun m hm j a b => he j a (by omega)
  refine ⟨fun i hi => ?_, fun φ => ?_, ?_⟩
  · rw [szA_c i (hc i (by omega)), he _ (by omega) (by omega), he _ (by omega) (by omega), he _ (by omega) (by omega)]
    exact h1 i hi
  · by_cases h0 : 0 ≤ n
    · rw [evA_c2 φ n.toNat (hc _ (by omega)), h2]
    · rw [← h2, show n.toNat = 0 by omega]
      rfl
  · by_cases h0 : 0 ≤ n
    · rw [szA_c n.toNat (hc _ (by omega)), h3]
    · rw [← h3, show n.toNat = 0 by omega]
      rfl
theorem Read_c {TX TX2 : Int → Int} {s0 : rdS} {k xm : Int} {M M2 : Int → Int} {mn ch am : Int} (h : Read TX s0 k xm M mn ch am) (hx : 0 ≤ xm) (he : ∀ j : Int, 0 ≤ j → j < xm → TX j = TX2 j) (hn : mn ≤ 64) (hM : ∀ j : Int, 200 * k ≤ j → j < 200 * k + 200 → M2 j = M j) : Read TX2 s0 k xm M2 mn ch am := by
  obtain ⟨s, h1, h2, h3, h4, h5, h6, h7, h8⟩ := h
  exact ⟨s, by rw [← rdGo_c xm.toNat 0 s0 (fun j a b => he j a (by omega))]; exact h1, h2, h3, h4, h5, h6, h7, MR_c h8 hn hM⟩
theorem rStop_c {TX TX2 : Int → Int} {s0 : rdS} {xm n : Int} (h : rStop TX s0 xm n) (hx : 0 ≤ xm) (he : ∀ j : Int, 0 ≤ j → j < xm → TX j = TX2 j) : rStop TX2 s0 xm n := by
  have e := rdGo_c (B := TX) (B2 := TX2) xm.toNat 0 s0 (fun j a b => he j a (by omega))
  unfold rStop at h ⊢
  rw [← e]
  exact h
def cpT (TX TY : Int → Int) (c : Int) : Int → Int := fun j => if 0 ≤ j ∧ j < c then TY j else TX j
theorem cpT_0 (TX TY : Int → Int) : cpT TX TY 0 = TX := by
  funext j
  exact if_neg (by omega)
theorem cpT_s {TX TY : Int → Int} {c : Int} (h : 0 ≤ c) : updZ (cpT TX TY c) c (TY c) = cpT TX TY (c + 1) := by
  funext j
  unfold updZ cpT
  by_cases h1 : j = c
  · rw [if_pos h1, if_pos (by omega), h1]
  · rw [if_neg h1]
    by_cases h2 : 0 ≤ j ∧ j < c
    · rw [if_pos h2, if_pos (by omega)]
    · rw [if_neg h2, if_neg (by omega)]
theorem cpT_in {TX TY : Int → Int} {c : Int} (h : ∀ j, inI (TX j)) (h2 : ∀ j, inI (TY j)) : ∀ j, inI (cpT TX TY c j) := by
  intro j
  unfold cpT
  split
  · exact h2 j
  · exact h j
def txV (U : Int → Int) (b : Int) (T : Int → Int) (c : Int) : Int → Int := fun j => if b ≤ j ∧ j < b + c then T (j - b) else U j
theorem txV_0 (U : Int → Int) (b : Int) (T : Int → Int) : txV U b T 0 = U := by
  funext j
  exact if_neg (by omega)
theorem txV_s {U T : Int → Int} {b c : Int} (h : 0 ≤ c) : updZ (txV U b T c) (b + c) (T c) = txV U b T (c + 1) := by
  funext j
  unfold updZ txV
  by_cases h1 : j = b + c
  · rw [if_pos h1, if_pos (by omega), h1, show b + c - b = c by omega]
  · rw [if_neg h1]
    by_cases h2 : b ≤ j ∧ j < b + c
    · rw [if_pos h2, if_pos (by omega)]
    · rw [if_neg h2, if_neg (by omega)]
def ruV (V T : Int → Int) (n : Int) : Int → Int := updZ (txV (updZ V (80 + 61 * V 18) n) (80 + 61 * V 18 + 1) T n) 18 (V 18 + 1)

set_option maxHeartbeats 4000000 in
set_option maxRecDepth 100000 in
theorem c_X7_rule {w : gW} {l : Launch} {S : Nat → va_E} {pm tm xm at_ wm wh : Int} {ir : Bool} {V PV TY TX MK MM CH AM WT WK FL PI : Int → Int} (hN : gw_N w = 105) (hm : modelAt w pm tm xm at_ wm wh ir V PV TY TX MK MM CH AM WT WK FL PI S) (hpm : 0 ≤ pm ∧ pm ≤ 4) (htm : 0 ≤ tm ∧ tm ≤ 60) (hTY : ∀ i, inI (TY i)) (hTX : ∀ i, inI (TX i)) (hWT : ∀ i, inI (WT i)) (h18 : 0 ≤ V 18 ∧ V 18 ≤ 8) {s0 : rdS} (h00 : s0.1 0 = 0) (h04 : s0.1 4 = 0) (h05 : s0.1 5 = 0) :
    GM1 w l yX7_rule wsX7_rule { frames := 4, cells := 0, slots := 0, locals := 93 } [.ref (gw_ad w 92)] S
      (fun v S' => ∃ (at1 wm1 : Int) (WT1 MK1 MM1 CH1 AM1 : Int → Int), (0 ≤ at1 ∧ at1 ≤ tm) ∧ (∀ i, inI (WT1 i)) ∧ FRM 7 MK MM MK1 MM1 ∧ (0 ≤ MM1 7 ∧ MM1 7 ≤ 60) ∧ (∀ j, j ≠ 7 → CH1 j = CH j ∧ AM1 j = AM j) ∧ ((rStop (cpT TX TY tm) s0 tm at1 ∧ v = vI (-100 - at1) ∧ POSTM w S pm tm tm at1 wm1 7 ir V PV TY (cpT TX TY tm) MK1 MM1 CH1 AM1 WT1 WK FL PI S') ∨ (at1 = tm ∧ Read (cpT TX TY tm) s0 7 tm MK1 (MM1 7) (CH1 7) (AM1 7) ∧ ((V 18 = 8 ∧ v = vI (-1000003) ∧ POSTM w S pm tm tm at1 wm1 7 ir V PV TY (cpT TX TY tm) MK1 MM1 CH1 AM1 WT1 WK FL PI S') ∨ (V 18 ≠ 8 ∧ v = vI (V 18 + 1) ∧ POSTM w S (actN pm) 0 tm at1 wm1 7 ir (ruV V (cpT TX TY tm) tm) (actP pm PV V) TY (cpT TX TY tm) MK1 MM1 CH1 AM1 WT1 WK FL PI S'))))) := by
  refine GM.start (own := RX7) (n := "rule") (d := "()I") (by decide) rfl (Nat.le_of_ble_eq_true rfl) ?_
  intro X hX hR hXl
  subst hXl
  refine g_at rfl (lv2 := [(0, .ref (gw_ad w 92))]) rfl rfl rfl ?_
  obtain ⟨⟨m92, m93, m94⟩, ⟨m95, m96⟩, ⟨m97, m98, m99, m100, m101⟩, ⟨m102, m103, m104⟩⟩ := (id hm)
  refine g_aload_n (pc := 0) hX 0 rfl dX7_rule_0 ?_
  refine g_aload_n (pc := 1) hX 0 rfl dX7_rule_1 ?_
  refine g_get (pc := 2) hX (ci := 7) (fun _ h => List.mem_cons_of_mem _ (List.mem_append_right _ h)) rfl 92 (by omega) m92 4 (by decide) (List.mem_of_getElem? (i := 1) rfl) rfl (v := vI (tm)) rfl dX7_rule_2 ?_
  refine g_put (pc := 5) hX (ci := 7) (fun _ h => List.mem_cons_of_mem _ (List.mem_append_right _ h)) rfl tyX7 tyX7_ok nmX7 92 (by omega) m92 6 (by decide) (List.mem_of_getElem? (i := 2) rfl) rfl rfl (tyX7_ok 6 (by decide)) rfl (fit_int _) (Nat.le_of_ble_eq_true rfl) dX7_rule_5 ?_
  refine g_at rfl rfl rfl (S2 := (va_up S 92 (.inr (7, [.ref (gw_ad w 93), .ref (gw_ad w 94), vI (pm), .ref (gw_ad w 95), vI (tm), .ref (gw_ad w 96), vI (tm), vI (at_), .ref (gw_ad w 97), .ref (gw_ad w 98), .ref (gw_ad w 99), .ref (gw_ad w 100), .ref (gw_ad w 101), vI (wm), vI (wh), vI (bz (ir)), .ref (gw_ad w 102), .ref (gw_ad w 103), .ref (gw_ad w 104)])))) rfl ?_
  refine g_iconst (pc := 8) hX dX7_rule_8 ?_
  refine g_istore_n (pc := 9) hX (lv2 := [(1, vI (0)), (0, .ref (gw_ad w 92))]) rfl (by decide) rfl dX7_rule_9 ?_
  have la : ∀ (n0 : Nat) (c : Int), 0 ≤ c → c ≤ tm → tm - c < n0 → G w { frames := 4, cells := 0, slots := 0, locals := 93 } X 3 10 [(1, vI (c)), (0, .ref (gw_ad w 92))] [] (va_up (va_up S 92 (.inr (7, [.ref (gw_ad w 93), .ref (gw_ad w 94), vI (pm), .ref (gw_ad w 95), vI (tm), .ref (gw_ad w 96), vI (tm), vI (at_), .ref (gw_ad w 97), .ref (gw_ad w 98), .ref (gw_ad w 99), .ref (gw_ad w 100), .ref (gw_ad w 101), vI (wm), vI (wh), vI (bz (ir)), .ref (gw_ad w 102), .ref (gw_ad w 103), .ref (gw_ad w 104)]))) 96 (AI w 60 (cpT TX TY c))) := by
    intro n0
    induction n0 with
    | zero => intro c  h1c h2c h3c; exact absurd h3c (by omega)
    | succ n0 ihla =>
      intro c  h1c h2c h3c 
      have hc : inI c := inI_mk (by omega) (by omega)
      refine g_iload_n (pc := 10) hX 0 rfl dX7_rule_10 ?_
      refine g_aload_n (pc := 11) hX 1 rfl dX7_rule_11 ?_
      refine g_get (pc := 12) hX (ci := 7) (fun _ h => List.mem_cons_of_mem _ (List.mem_append_right _ h)) rfl 92 (by omega) (up_ne (by decide) (up_eq _ _ _)) 6 (by decide) (List.mem_of_getElem? (i := 2) rfl) rfl (v := vI (tm)) rfl dX7_rule_12 ?_
      refine g_icmp_ge (pc := 15) (tgt := 36) hX (by first | assumption | exact inI_mk (by omega) (by omega)) (by first | assumption | exact inI_mk (by omega) (by omega)) dX7_rule_15 (by decide) (fun c_15 => ?_) (fun c_15 => ?_)
      · skip
        have hct : c = tm := by omega
        refine g_aload_n (pc := 36) hX 1 rfl dX7_rule_36 ?_
        refine g_bipush (pc := 37) hX (by decide) dX7_rule_37 ?_
        refine g_callV1 (pc := 39) (ci := 7) (As := [vI (7)]) (st2 := []) hX 92 (by omega) (up_ne (by decide) (up_eq _ _ _)) rfl (c_X7_readsRule hN (show modelAt w pm tm tm at_ wm wh ir V PV TY (cpT TX TY c) MK MM CH AM WT WK FL PI (va_up (va_up S 92 (.inr (7, [.ref (gw_ad w 93), .ref (gw_ad w 94), vI (pm), .ref (gw_ad w 95), vI (tm), .ref (gw_ad w 96), vI (tm), vI (at_), .ref (gw_ad w 97), .ref (gw_ad w 98), .ref (gw_ad w 99), .ref (gw_ad w 100), .ref (gw_ad w 101), vI (wm), vI (wh), vI (bz (ir)), .ref (gw_ad w 102), .ref (gw_ad w 103), .ref (gw_ad w 104)]))) 96 (AI w 60 (cpT TX TY c))) from ⟨⟨(up_ne (by decide) (up_eq _ _ _)), (up_ne (by decide) (up_ne (by decide) m93)), (up_ne (by decide) (up_ne (by decide) m94))⟩, ⟨(up_ne (by decide) (up_ne (by decide) m95)), (up_eq _ _ _)⟩, ⟨(up_ne (by decide) (up_ne (by decide) m97)), (up_ne (by decide) (up_ne (by decide) m98)), (up_ne (by decide) (up_ne (by decide) m99)), (up_ne (by decide) (up_ne (by decide) m100)), (up_ne (by decide) (up_ne (by decide) m101))⟩, ⟨(up_ne (by decide) (up_ne (by decide) m102)), (up_ne (by decide) (up_ne (by decide) m103)), (up_ne (by decide) (up_ne (by decide) m104))⟩⟩) (kk := 7) (by decide) htm (cpT_in hTX hTY) hWT h00 h04 h05) gX7_rule_X7_readsRule (n := 1) (hw := rfl) (hrc := rfl) (hrs := rfl) (hd := by decide +kernel) (hR := ⟨Nat.le_of_ble_eq_true rfl, Nat.le_of_ble_eq_true rfl⟩) (hn := rfl) (hst := rfl) (hsum := Nat.le_of_ble_eq_true rfl) (hdg := dX7_rule_39) ?_
        rintro v39 S39 ⟨at39, wm39, WT39, MK39, MM39, CH39, AM39, hP39, hA39, hW39, hF39, hM39, hC39, hd39⟩
        obtain ⟨b39, rfl, hb39⟩ : ∃ b, v39 = vI (bz b) ∧ ((b = true ∧ at39 = tm ∧ Read (cpT TX TY c) s0 7 tm MK39 (MM39 7) (CH39 7) (AM39 7)) ∨ (b = false ∧ rStop (cpT TX TY c) s0 tm at39)) := hd39.elim (fun h => ⟨true, h.1, Or.inl ⟨rfl, h.2⟩⟩) (fun h => ⟨false, h.1, Or.inr ⟨rfl, h.2⟩⟩)
        obtain ⟨⟨m39_92, m39_93, m39_94⟩, ⟨m39_95, m39_96⟩, ⟨m39_97, m39_98, m39_99, m39_100, m39_101⟩, ⟨m39_102, m39_103, m39_104⟩⟩ := hP39.1
        refine g_at (pc2 := 42) rfl rfl (st2 := [vI (bz (b39))]) rfl (S2 := S39) rfl ?_
        refine g_bif_ne (pc := 42) (tgt := 53) hX dX7_rule_42 (by decide) (fun c_42 => ?_) (fun c_42 => ?_)
        · skip
          refine g_aload_n (pc := 53) hX 1 rfl dX7_rule_53 ?_
          refine g_get (pc := 54) hX (ci := 7) (fun _ h => List.mem_cons_of_mem _ (List.mem_append_right _ h)) rfl 92 (by omega) m39_92 0 (by decide) (List.mem_of_getElem? (i := 6) rfl) rfl (v := .ref (gw_ad w 93)) rfl dX7_rule_54 ?_
          refine g_bipush (pc := 57) hX (by decide) dX7_rule_57 ?_
          refine g_lald (pc := 59) hX 93 (by omega) m39_93 (by omega) (by omega) (by decide) dX7_rule_59 ?_
          refine g_ldc2 (pc := 60) hX (z := 8) (List.mem_of_getElem? (i := 7) rfl) (by decide +kernel) dX7_rule_60 ?_
          refine g_lcmp_ne (pc := 63) (tgt := 70) hX (by first | assumption | exact inI_L (by assumption) | exact inL_mk (by omega) (by omega)) (by first | assumption | exact inI_L (by assumption) | exact inL_mk (by omega) (by omega)) dX7_rule_63 dX7_rule_64 (by decide) (fun c_63 => ?_) (fun c_63 => ?_)
          · skip
            refine g_aload_n (pc := 70) hX 1 rfl dX7_rule_70 ?_
            refine g_callV0 (pc := 71) (ci := 7) (As := []) (st2 := []) hX 92 (by omega) m39_92 rfl (c_X7_act hN (show modelAt w pm tm tm at39 wm39 7 ir V PV TY (cpT TX TY c) MK39 MM39 CH39 AM39 WT39 WK FL PI S39 from ⟨⟨m39_92, m39_93, m39_94⟩, ⟨m39_95, m39_96⟩, ⟨m39_97, m39_98, m39_99, m39_100, m39_101⟩, ⟨m39_102, m39_103, m39_104⟩⟩) hpm) gX7_rule_X7_act (n := 0) (hw := rfl) (hrc := rfl) (hrs := rfl) (hd := by decide +kernel) (hR := ⟨Nat.le_of_ble_eq_true rfl, Nat.le_of_ble_eq_true rfl⟩) (hn := rfl) (hst := rfl) (hsum := Nat.le_of_ble_eq_true rfl) (hdg := dX7_rule_71) ?_
            rintro S71 hP71
            obtain ⟨⟨m71_92, m71_93, m71_94⟩, ⟨m71_95, m71_96⟩, ⟨m71_97, m71_98, m71_99, m71_100, m71_101⟩, ⟨m71_102, m71_103, m71_104⟩⟩ := hP71.1
            refine g_at (pc2 := 74) rfl rfl (st2 := []) rfl (S2 := S71) rfl ?_
            refine g_bipush (pc := 74) hX (by decide) dX7_rule_74 ?_
            refine g_bipush (pc := 76) hX (by decide) dX7_rule_76 ?_
            refine g_aload_n (pc := 78) hX 1 rfl dX7_rule_78 ?_
            refine g_get (pc := 79) hX (ci := 7) (fun _ h => List.mem_cons_of_mem _ (List.mem_append_right _ h)) rfl 92 (by omega) m71_92 0 (by decide) (List.mem_of_getElem? (i := 6) rfl) rfl (v := .ref (gw_ad w 93)) rfl dX7_rule_79 ?_
            refine g_bipush (pc := 82) hX (by decide) dX7_rule_82 ?_
            refine g_lald (pc := 84) hX 93 (by omega) m71_93 (by omega) (by omega) (by decide) dX7_rule_84 ?_
            refine g_l2i (pc := 85) hX dX7_rule_85 ?_
            refine g_imul (pc := 86) hX dX7_rule_86 ?_
            refine g_iadd (pc := 87) hX dX7_rule_87 ?_
            refine g_istore_n (pc := 88) hX (lv2 := [(1, vI (80 + (61 * (V 18)))), (0, .ref (gw_ad w 92))]) rfl (by decide) rfl dX7_rule_88 ?_
            refine g_aload_n (pc := 89) hX 1 rfl dX7_rule_89 ?_
            refine g_get (pc := 90) hX (ci := 7) (fun _ h => List.mem_cons_of_mem _ (List.mem_append_right _ h)) rfl 92 (by omega) m71_92 0 (by decide) (List.mem_of_getElem? (i := 6) rfl) rfl (v := .ref (gw_ad w 93)) rfl dX7_rule_90 ?_
            refine g_iload_n (pc := 93) hX 0 rfl dX7_rule_93 ?_
            refine g_aload_n (pc := 94) hX 1 rfl dX7_rule_94 ?_
            refine g_get (pc := 95) hX (ci := 7) (fun _ h => List.mem_cons_of_mem _ (List.mem_append_right _ h)) rfl 92 (by omega) m71_92 6 (by decide) (List.mem_of_getElem? (i := 2) rfl) rfl (v := vI (tm)) rfl dX7_rule_95 ?_
            refine g_i2l (pc := 98) hX (by first | assumption | exact inI_mk (by omega) (by omega)) dX7_rule_98 ?_
            refine g_last (pc := 99) hX 93 (by omega) m71_93 (by omega) (by omega) (by decide) dX7_rule_99 ?_
            refine g_at rfl rfl rfl (S2 := (va_up S71 93 (AJ w 1200 (updZ (V) (80 + (61 * (V 18))) (tm))))) rfl ?_
            refine g_iconst (pc := 100) hX dX7_rule_100 ?_
            refine g_istore_n (pc := 101) hX (lv2 := [(2, vI (0)), (1, vI (80 + (61 * (V 18)))), (0, .ref (gw_ad w 92))]) rfl (by decide) rfl dX7_rule_101 ?_
            have lb : ∀ (n0 : Nat) (e : Int), 0 ≤ e → e ≤ tm → tm - e < n0 → G w { frames := 4, cells := 0, slots := 0, locals := 93 } X 3 102 [(2, vI (e)), (0, .ref (gw_ad w 92)), (1, vI (80 + (61 * (V 18))))] [] (va_up (va_up S71 93 (AJ w 1200 (updZ (V) (80 + (61 * (V 18))) (tm)))) 93 (AJ w 1200 (txV (updZ V (80 + 61 * V 18) tm) (80 + 61 * V 18 + 1) (cpT TX TY c) e))) := by
              intro n0
              induction n0 with
              | zero => intro e  h1e h2e h3e; exact absurd h3e (by omega)
              | succ n0 ihlb =>
                intro e  h1e h2e h3e 
                have he : inI e := inI_mk (by omega) (by omega)
                refine g_iload_n (pc := 102) hX 0 rfl dX7_rule_102 ?_
                refine g_aload_n (pc := 103) hX 1 rfl dX7_rule_103 ?_
                refine g_get (pc := 104) hX (ci := 7) (fun _ h => List.mem_cons_of_mem _ (List.mem_append_right _ h)) rfl 92 (by omega) (up_ne (by decide) (up_ne (by decide) m71_92)) 6 (by decide) (List.mem_of_getElem? (i := 2) rfl) rfl (v := vI (tm)) rfl dX7_rule_104 ?_
                refine g_icmp_ge (pc := 107) (tgt := 133) hX (by first | assumption | exact inI_mk (by omega) (by omega)) (by first | assumption | exact inI_mk (by omega) (by omega)) dX7_rule_107 (by decide) (fun c_107 => ?_) (fun c_107 => ?_)
                · skip
                  refine g_aload_n (pc := 133) hX 1 rfl dX7_rule_133 ?_
                  refine g_get (pc := 134) hX (ci := 7) (fun _ h => List.mem_cons_of_mem _ (List.mem_append_right _ h)) rfl 92 (by omega) (up_ne (by decide) (up_ne (by decide) m71_92)) 0 (by decide) (List.mem_of_getElem? (i := 6) rfl) rfl (v := .ref (gw_ad w 93)) rfl dX7_rule_134 ?_
                  refine g_bipush (pc := 137) hX (by decide) dX7_rule_137 ?_
                  refine g_dup2 (pc := 139) hX rfl rfl dX7_rule_139 ?_
                  refine g_lald (pc := 140) hX 93 (by omega) (up_eq _ _ _) (by omega) (by omega) (by decide) dX7_rule_140 ?_
                  refine g_at rfl rfl (st2 := [vL (V 18), vI (18), .ref (gw_ad w 93)]) (by rw [show (txV (updZ V (80 + 61 * V 18) tm) (80 + 61 * V 18 + 1) (cpT TX TY c) e) 18 = V 18 from by unfold txV; rw [if_neg (by omega), updZ_ne _ _ (by omega)]]) rfl ?_
                  refine g_lconst (pc := 141) hX (z := 1) rfl dX7_rule_141 ?_
                  refine g_ladd (pc := 142) hX dX7_rule_142 ?_
                  refine g_last (pc := 143) hX 93 (by omega) (up_eq _ _ _) (by omega) (by omega) (by decide) dX7_rule_143 ?_
                  refine g_at rfl rfl rfl (S2 := (va_up (va_up (va_up S71 93 (AJ w 1200 (updZ (V) (80 + (61 * (V 18))) (tm)))) 93 (AJ w 1200 (txV (updZ V (80 + 61 * V 18) tm) (80 + 61 * V 18 + 1) (cpT TX TY c) e))) 93 (AJ w 1200 (updZ (txV (updZ V (80 + 61 * V 18) tm) (80 + 61 * V 18 + 1) (cpT TX TY c) e) (18) ((V 18) + 1))))) rfl ?_
                  refine g_aload_n (pc := 144) hX 1 rfl dX7_rule_144 ?_
                  refine g_iconst (pc := 145) hX dX7_rule_145 ?_
                  refine g_put (pc := 146) hX (ci := 7) (fun _ h => List.mem_cons_of_mem _ (List.mem_append_right _ h)) rfl tyX7 tyX7_ok nmX7 92 (by omega) (up_ne (by decide) (up_ne (by decide) (up_ne (by decide) m71_92))) 4 (by decide) (List.mem_of_getElem? (i := 1) rfl) rfl rfl (tyX7_ok 4 (by decide)) rfl (fit_int _) (Nat.le_of_ble_eq_true rfl) dX7_rule_146 ?_
                  refine g_at rfl rfl rfl (S2 := (va_up (va_up (va_up (va_up S71 93 (AJ w 1200 (updZ (V) (80 + (61 * (V 18))) (tm)))) 93 (AJ w 1200 (txV (updZ V (80 + 61 * V 18) tm) (80 + 61 * V 18 + 1) (cpT TX TY c) e))) 93 (AJ w 1200 (updZ (txV (updZ V (80 + 61 * V 18) tm) (80 + 61 * V 18 + 1) (cpT TX TY c) e) (18) ((V 18) + 1)))) 92 (.inr (7, [.ref (gw_ad w 93), .ref (gw_ad w 94), vI (actN pm), .ref (gw_ad w 95), vI (0), .ref (gw_ad w 96), vI (tm), vI (at39), .ref (gw_ad w 97), .ref (gw_ad w 98), .ref (gw_ad w 99), .ref (gw_ad w 100), .ref (gw_ad w 101), vI (wm39), vI (7), vI (bz (ir)), .ref (gw_ad w 102), .ref (gw_ad w 103), .ref (gw_ad w 104)])))) rfl ?_
                  refine g_aload_n (pc := 149) hX 1 rfl dX7_rule_149 ?_
                  refine g_get (pc := 150) hX (ci := 7) (fun _ h => List.mem_cons_of_mem _ (List.mem_append_right _ h)) rfl 92 (by omega) (up_eq _ _ _) 0 (by decide) (List.mem_of_getElem? (i := 6) rfl) rfl (v := .ref (gw_ad w 93)) rfl dX7_rule_150 ?_
                  refine g_bipush (pc := 153) hX (by decide) dX7_rule_153 ?_
                  refine g_lald (pc := 155) hX 93 (by omega) (up_ne (by decide) (up_eq _ _ _)) (by omega) (by omega) (by decide) dX7_rule_155 ?_
                  refine g_at rfl rfl (st2 := [vL (V 18 + 1)]) (by rw [show (updZ (txV (updZ V (80 + 61 * V 18) tm) (80 + 61 * V 18 + 1) (cpT TX TY c) e) (18) ((V 18) + 1)) 18 = V 18 + 1 from updZ_eq _ _ _]) rfl ?_
                  refine g_l2i (pc := 156) hX dX7_rule_156 ?_
                  refine g_iret (pc := 157) hX hR dX7_rule_157 ?_
                  subst hct
                  have hrd := hb39.elim (fun h => h.2) (fun h => absurd (h.1.symm.trans c_42) (by decide))
                  have he1 : e = c := by omega
                  subst he1
                  exact ⟨at39, wm39, WT39, MK39, MM39, CH39, AM39, hA39, hW39, hF39, hM39, hC39, Or.inr ⟨hrd.1, hrd.2, Or.inr ⟨by omega, rfl, ⟨⟨⟨(up_eq _ _ _), (up_ne (by decide) (up_eq _ _ _)), (up_ne (by decide) (up_ne (by decide) (up_ne (by decide) (up_ne (by decide) m71_94))))⟩, ⟨(up_ne (by decide) (up_ne (by decide) (up_ne (by decide) (up_ne (by decide) m71_95)))), (up_ne (by decide) (up_ne (by decide) (up_ne (by decide) (up_ne (by decide) m71_96))))⟩, ⟨(up_ne (by decide) (up_ne (by decide) (up_ne (by decide) (up_ne (by decide) m71_97)))), (up_ne (by decide) (up_ne (by decide) (up_ne (by decide) (up_ne (by decide) m71_98)))), (up_ne (by decide) (up_ne (by decide) (up_ne (by decide) (up_ne (by decide) m71_99)))), (up_ne (by decide) (up_ne (by decide) (up_ne (by decide) (up_ne (by decide) m71_100)))), (up_ne (by decide) (up_ne (by decide) (up_ne (by decide) (up_ne (by decide) m71_101))))⟩, ⟨(up_ne (by decide) (up_ne (by decide) (up_ne (by decide) (up_ne (by decide) m71_102)))), (up_ne (by decide) (up_ne (by decide) (up_ne (by decide) (up_ne (by decide) m71_103)))), (up_ne (by decide) (up_ne (by decide) (up_ne (by decide) (up_ne (by decide) m71_104))))⟩⟩, fun q hq => (up_ne (by omega) (up_ne (by omega) (up_ne (by omega) (up_ne (by omega) ((hP71.2 q hq).trans ((hP39.2 q hq).trans (up_ne (by omega) (up_ne (by omega) rfl))))))))⟩⟩⟩⟩
                · skip
                  refine g_aload_n (pc := 110) hX 1 rfl dX7_rule_110 ?_
                  refine g_get (pc := 111) hX (ci := 7) (fun _ h => List.mem_cons_of_mem _ (List.mem_append_right _ h)) rfl 92 (by omega) (up_ne (by decide) (up_ne (by decide) m71_92)) 0 (by decide) (List.mem_of_getElem? (i := 6) rfl) rfl (v := .ref (gw_ad w 93)) rfl dX7_rule_111 ?_
                  refine g_iload_n (pc := 114) hX 2 rfl dX7_rule_114 ?_
                  refine g_iconst (pc := 115) hX dX7_rule_115 ?_
                  refine g_iadd (pc := 116) hX dX7_rule_116 ?_
                  refine g_iload_n (pc := 117) hX 0 rfl dX7_rule_117 ?_
                  refine g_iadd (pc := 118) hX dX7_rule_118 ?_
                  refine g_aload_n (pc := 119) hX 1 rfl dX7_rule_119 ?_
                  refine g_get (pc := 120) hX (ci := 7) (fun _ h => List.mem_cons_of_mem _ (List.mem_append_right _ h)) rfl 92 (by omega) (up_ne (by decide) (up_ne (by decide) m71_92)) 5 (by decide) (List.mem_of_getElem? (i := 3) rfl) rfl (v := .ref (gw_ad w 96)) rfl dX7_rule_120 ?_
                  refine g_iload_n (pc := 123) hX 0 rfl dX7_rule_123 ?_
                  refine g_iald (pc := 124) hX 96 (by omega) (up_ne (by decide) (up_ne (by decide) m71_96)) (by omega) (by omega) (by decide) dX7_rule_124 ?_
                  refine g_i2l (pc := 125) hX (cpT_in hTX hTY _) dX7_rule_125 ?_
                  refine g_last (pc := 126) hX 93 (by omega) (up_eq _ _ _) (by omega) (by omega) (by decide) dX7_rule_126 ?_
                  refine g_at rfl rfl rfl (S2 := (va_up (va_up (va_up S71 93 (AJ w 1200 (updZ (V) (80 + (61 * (V 18))) (tm)))) 93 (AJ w 1200 (txV (updZ V (80 + 61 * V 18) tm) (80 + 61 * V 18 + 1) (cpT TX TY c) e))) 93 (AJ w 1200 (updZ (txV (updZ V (80 + 61 * V 18) tm) (80 + 61 * V 18 + 1) (cpT TX TY c) e) (((80 + (61 * (V 18))) + 1) + e) ((cpT TX TY c) e))))) rfl ?_
                  refine g_iinc (pc := 127) hX (lv2 := [(2, vI (e + 1)), (0, .ref (gw_ad w 92)), (1, vI (80 + (61 * (V 18))))]) 0 rfl (by decide) rfl dX7_rule_127 ?_
                  refine g_goto (pc := 130) (tgt := 102) hX dX7_rule_130 (by decide) ?_
                  refine g_sub (lv2 := [(2, vI (e + 1)), (0, .ref (gw_ad w 92)), (1, vI (80 + (61 * (V 18))))]) [0, 1, 2] rfl ?_
                  refine g_at rfl (lv2 := [(2, vI (e + 1)), (0, .ref (gw_ad w 92)), (1, vI (80 + (61 * (V 18))))]) (rfl) rfl (S2 := (va_up (va_up S71 93 (AJ w 1200 (updZ (V) (80 + (61 * (V 18))) (tm)))) 93 (AJ w 1200 (txV (updZ V (80 + 61 * V 18) tm) (80 + 61 * V 18 + 1) (cpT TX TY c) (e + 1))))) (by rw [up_up, txV_s h1e]) ?_
                  exact ihlb (e + 1)  (by omega) (by omega) (by omega) 
            refine g_sub (lv2 := [(2, vI (0)), (0, .ref (gw_ad w 92)), (1, vI (80 + (61 * (V 18))))]) [0, 2, 1] rfl ?_
            refine g_at rfl (lv2 := [(2, vI (0)), (0, .ref (gw_ad w 92)), (1, vI (80 + (61 * (V 18))))]) (rfl) rfl (S2 := (va_up (va_up S71 93 (AJ w 1200 (updZ (V) (80 + (61 * (V 18))) (tm)))) 93 (AJ w 1200 (txV (updZ V (80 + 61 * V 18) tm) (80 + 61 * V 18 + 1) (cpT TX TY c) 0)))) (by rw [txV_0, up_self (f := (va_up S71 93 (AJ w 1200 (updZ (V) (80 + (61 * (V 18))) (tm))))) (up_eq _ _ _)]) ?_
            exact lb ((tm : Int) - 0 + 1).toNat 0  (by omega) (by omega) (by omega) 
          · skip
            refine g_ldc (pc := 67) hX (z := -1000003) (List.mem_of_getElem? (i := 8) rfl) (by decide +kernel) dX7_rule_67 ?_
            refine g_iret (pc := 69) hX hR dX7_rule_69 ?_
            subst hct
            have hrd := hb39.elim (fun h => h.2) (fun h => absurd (h.1.symm.trans c_42) (by decide))
            exact ⟨at39, wm39, WT39, MK39, MM39, CH39, AM39, hA39, hW39, hF39, hM39, hC39, Or.inr ⟨hrd.1, hrd.2, Or.inl ⟨by omega, rfl, ⟨⟨⟨m39_92, m39_93, m39_94⟩, ⟨m39_95, m39_96⟩, ⟨m39_97, m39_98, m39_99, m39_100, m39_101⟩, ⟨m39_102, m39_103, m39_104⟩⟩, fun q hq => ((hP39.2 q hq).trans (up_ne (by omega) (up_ne (by omega) rfl)))⟩⟩⟩⟩
        · skip
          refine g_bipush (pc := 45) hX (by decide) dX7_rule_45 ?_
          refine g_aload_n (pc := 47) hX 1 rfl dX7_rule_47 ?_
          refine g_get (pc := 48) hX (ci := 7) (fun _ h => List.mem_cons_of_mem _ (List.mem_append_right _ h)) rfl 92 (by omega) m39_92 7 (by decide) (List.mem_of_getElem? (i := 5) rfl) rfl (v := vI (at39)) rfl dX7_rule_48 ?_
          refine g_isub (pc := 51) hX dX7_rule_51 ?_
          refine g_iret (pc := 52) hX hR dX7_rule_52 ?_
          subst hct
          exact ⟨at39, wm39, WT39, MK39, MM39, CH39, AM39, hA39, hW39, hF39, hM39, hC39, Or.inl ⟨hb39.elim (fun h => absurd (h.1.symm.trans c_42) (by decide)) (fun h => h.2), rfl, ⟨⟨⟨m39_92, m39_93, m39_94⟩, ⟨m39_95, m39_96⟩, ⟨m39_97, m39_98, m39_99, m39_100, m39_101⟩, ⟨m39_102, m39_103, m39_104⟩⟩, fun q hq => ((hP39.2 q hq).trans (up_ne (by omega) (up_ne (by omega) rfl)))⟩⟩⟩
      · skip
        refine g_aload_n (pc := 18) hX 1 rfl dX7_rule_18 ?_
        refine g_get (pc := 19) hX (ci := 7) (fun _ h => List.mem_cons_of_mem _ (List.mem_append_right _ h)) rfl 92 (by omega) (up_ne (by decide) (up_eq _ _ _)) 5 (by decide) (List.mem_of_getElem? (i := 3) rfl) rfl (v := .ref (gw_ad w 96)) rfl dX7_rule_19 ?_
        refine g_iload_n (pc := 22) hX 0 rfl dX7_rule_22 ?_
        refine g_aload_n (pc := 23) hX 1 rfl dX7_rule_23 ?_
        refine g_get (pc := 24) hX (ci := 7) (fun _ h => List.mem_cons_of_mem _ (List.mem_append_right _ h)) rfl 92 (by omega) (up_ne (by decide) (up_eq _ _ _)) 3 (by decide) (List.mem_of_getElem? (i := 4) rfl) rfl (v := .ref (gw_ad w 95)) rfl dX7_rule_24 ?_
        refine g_iload_n (pc := 27) hX 0 rfl dX7_rule_27 ?_
        refine g_iald (pc := 28) hX 95 (by omega) (up_ne (by decide) (up_ne (by decide) m95)) (by omega) (by omega) (by decide) dX7_rule_28 ?_
        refine g_iast (pc := 29) hX 96 (by omega) (up_eq _ _ _) (by omega) (by omega) (by decide) dX7_rule_29 ?_
        refine g_at rfl rfl rfl (S2 := (va_up (va_up (va_up S 92 (.inr (7, [.ref (gw_ad w 93), .ref (gw_ad w 94), vI (pm), .ref (gw_ad w 95), vI (tm), .ref (gw_ad w 96), vI (tm), vI (at_), .ref (gw_ad w 97), .ref (gw_ad w 98), .ref (gw_ad w 99), .ref (gw_ad w 100), .ref (gw_ad w 101), vI (wm), vI (wh), vI (bz (ir)), .ref (gw_ad w 102), .ref (gw_ad w 103), .ref (gw_ad w 104)]))) 96 (AI w 60 (cpT TX TY c))) 96 (AI w 60 (updZ (cpT TX TY c) (c) (TY c))))) rfl ?_
        refine g_iinc (pc := 30) hX (lv2 := [(1, vI (c + 1)), (0, .ref (gw_ad w 92))]) 0 rfl (by decide) rfl dX7_rule_30 ?_
        refine g_goto (pc := 33) (tgt := 10) hX dX7_rule_33 (by decide) ?_
        refine g_sub (lv2 := [(1, vI (c + 1)), (0, .ref (gw_ad w 92))]) [0, 1] rfl ?_
        refine g_at rfl (lv2 := [(1, vI (c + 1)), (0, .ref (gw_ad w 92))]) (rfl) rfl (S2 := (va_up (va_up S 92 (.inr (7, [.ref (gw_ad w 93), .ref (gw_ad w 94), vI (pm), .ref (gw_ad w 95), vI (tm), .ref (gw_ad w 96), vI (tm), vI (at_), .ref (gw_ad w 97), .ref (gw_ad w 98), .ref (gw_ad w 99), .ref (gw_ad w 100), .ref (gw_ad w 101), vI (wm), vI (wh), vI (bz (ir)), .ref (gw_ad w 102), .ref (gw_ad w 103), .ref (gw_ad w 104)]))) 96 (AI w 60 (cpT TX TY (c + 1))))) (by rw [up_up, cpT_s h1c]) ?_
        exact ihla (c + 1)  (by omega) (by omega) (by omega) 
  refine g_sub (lv2 := [(1, vI (0)), (0, .ref (gw_ad w 92))]) [0, 1] rfl ?_
  refine g_at rfl (lv2 := [(1, vI (0)), (0, .ref (gw_ad w 92))]) (rfl) rfl (S2 := (va_up (va_up S 92 (.inr (7, [.ref (gw_ad w 93), .ref (gw_ad w 94), vI (pm), .ref (gw_ad w 95), vI (tm), .ref (gw_ad w 96), vI (tm), vI (at_), .ref (gw_ad w 97), .ref (gw_ad w 98), .ref (gw_ad w 99), .ref (gw_ad w 100), .ref (gw_ad w 101), vI (wm), vI (wh), vI (bz (ir)), .ref (gw_ad w 102), .ref (gw_ad w 103), .ref (gw_ad w 104)]))) 96 (AI w 60 (cpT TX TY 0)))) (by rw [cpT_0, up_self (f := (va_up S 92 (.inr (7, [.ref (gw_ad w 93), .ref (gw_ad w 94), vI (pm), .ref (gw_ad w 95), vI (tm), .ref (gw_ad w 96), vI (tm), vI (at_), .ref (gw_ad w 97), .ref (gw_ad w 98), .ref (gw_ad w 99), .ref (gw_ad w 100), .ref (gw_ad w 101), vI (wm), vI (wh), vI (bz (ir)), .ref (gw_ad w 102), .ref (gw_ad w 103), .ref (gw_ad w 104)])))) (up_ne (by decide) m96)]) ?_
  exact la ((tm : Int) - 0 + 1).toNat 0  (by omega) (by omega) (by omega) 
