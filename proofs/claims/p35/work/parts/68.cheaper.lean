/-! ===== p35: what would be cheaper, over one function of prices (a variable, so that no price is ever opened) ===== -/
def ltF (F : Int → Int → Int → Int → Int → Int) (x : Int → Int) (r : Int) : Prop := (r = -1000009 ∧ ∀ m, 1 ≤ m → m ≤ x 0 → F (x 0) (x 1) (x 2) (x 3) (x 4) ≤ F m (x 1) (x 2) (x 3) (x 4)) ∨ (0 < r ∧ r < x 0 ∧ F (x 0 - r) (x 1) (x 2) (x 3) (x 4) < F (x 0) (x 1) (x 2) (x 3) (x 4) ∧ F (x 0) (x 1) (x 2) (x 3) (x 4) ≤ F (x 0 - r + 1) (x 1) (x 2) (x 3) (x 4))
def shF (F : Int → Int → Int → Int → Int → Int) (x : Int → Int) (r : Int) : Prop := r = -1000009 ∨ (0 < r ∧ r < x 2 ∧ F (x 0) (x 1) (x 2 - r) (x 3) (x 4) < F (x 0) (x 1) (x 2) (x 3) (x 4) ∧ F (x 0) (x 1) (x 2) (x 3) (x 4) ≤ F (x 0) (x 1) (x 2 - r + 1) (x 3) (x 4))
def chF (F : Int → Int → Int → Int → Int → Int) (C x : Int → Int) (r : Int) : Prop := (r = -1000009 ∧ ∀ y, 0 ≤ y → y < 4 → ¬ 0 < C y) ∨ (0 ≤ r ∧ r < 4 ∧ 0 < C r ∧ ∀ y, 0 ≤ y → y < 4 → 0 < C y → F (x 0) (x 1) (x 2) (x 3) r ≤ F (x 0) (x 1) (x 2) (x 3) y)
section F68
variable {w : gW} {l : Launch} {S : Nat → va_E} {ty pl dg : Int} {D : SD} {F : Int → Int → Int → Int → Int → Int}
theorem qF_quote (eF : prW D = F) (h : AD w ty pl dg D S) {m a b c z : Int} (hm : 1 ≤ m ∧ m ≤ 100000) (ha : 1 ≤ a ∧ a ≤ 2000) (hb1 : 1 ≤ b ∧ b ≤ 2000) (hc1 : 1 ≤ c ∧ c ≤ 2000) (hz : 0 ≤ z ∧ z ≤ 3) (hc : 0 < sC D z) : GM1 w l yX6_quote wsX6_quote { frames := 6, cells := 0, slots := 0, locals := 151 } [.ref (gw_ad w 0), vI m, vI a, vI b, vI c, vI z] S (fun v S2 => v = vI (F m a b c z) ∧ AD w ty pl dg D S2) := by subst eF; exact q_quote h hm ha hb1 hc1 hz hc
theorem qF_lighter (eF : prW D = F) (h : AD w ty pl dg D S) {p : Int} (p0 : 0 ≤ p) (p1 : p < snP D) (hc : 0 < sC D (sP D p 4)) : GM1 w l yX6_lighter wsX6_lighter { frames := 6, cells := 0, slots := 0, locals := 151 } [.ref (gw_ad w 0), vI p] S (fun v S2 => ∃ r, v = vI r ∧ ltF F (sP D p) r ∧ AD w ty pl dg D S2) := by subst eF; exact q_lighter h p0 p1 hc
theorem qF_shorter (eF : prW D = F) (h : AD w ty pl dg D S) {p : Int} (p0 : 0 ≤ p) (p1 : p < snP D) (hc : 0 < sC D (sP D p 4)) : GM1 w l yX6_shorter wsX6_shorter { frames := 6, cells := 0, slots := 0, locals := 151 } [.ref (gw_ad w 0), vI p, vI 2] S (fun v S2 => ∃ r, v = vI r ∧ shF F (sP D p) r ∧ AD w ty pl dg D S2) := by subst eF; exact q_shorter h p0 p1 hc
theorem qF_cheapest (eF : prW D = F) (h : AD w ty pl dg D S) {p : Int} (p0 : 0 ≤ p) (p1 : p < snP D) : GM1 w l yX6_cheapest wsX6_cheapest { frames := 6, cells := 0, slots := 0, locals := 151 } [.ref (gw_ad w 0), vI p] S (fun v S2 => ∃ r, v = vI r ∧ chF F (sC D) (sP D p) r ∧ AD w ty pl dg D S2) := by subst eF; exact q_cheapest h p0 p1
theorem F_b (eF : prW D = F) (h : ok35 D) {m a b c z : Int} (hm : 1 ≤ m ∧ m ≤ 100000) (ha : 1 ≤ a ∧ a ≤ 2000) (hb : 1 ≤ b ∧ b ≤ 2000) (hc : 1 ≤ c ∧ c ≤ 2000) (hz : 0 ≤ z ∧ z ≤ 3) (hC : 0 < sC D z) : 0 ≤ F m a b c z ∧ F m a b c z ≤ 1000000000 := by subst eF; exact prW_b h hm ha hb hc hz hC
end F68
set_option maxHeartbeats 4000000 in
set_option maxRecDepth 100000 in
theorem c_L_cheaper {w : gW} {l : Launch} {S : Nat → va_E} {D : SD} (hA : A0 w D S) {p : Int} (p0 : 0 ≤ p) (p1 : p < snP D) :
    GM1 w l yL_cheaper wsL_cheaper { frames := 7, cells := 0, slots := 0, locals := 176 } [.ref (gw_ad w 0), vI (p)] S
      (fun v S' => v = vI (bz true) ∧ A0 w D S') := by
  refine GM.start (own := RL) (n := "cheaper") (d := "(LParcelDesk;I)Z") (by decide) rfl (Nat.le_of_ble_eq_true rfl) ?_
  intro X hX hR hXl
  subst hXl
  refine g_at rfl (lv2 := [(0, .ref (gw_ad w 0)), (1, vI (p))]) rfl rfl rfl ?_
  obtain ⟨F, eF⟩ : ∃ F : Int → Int → Int → Int → Int → Int, prW D = F := ⟨_, rfl⟩
  have hr := hA.row p0 p1
  by_cases hc : 0 < sC D (sP D p 4)
  · skip
    refine g_aload_n (pc := 0) hX 0 rfl dL_cheaper_0 ?_
    refine g_iload_n (pc := 1) hX 1 rfl dL_cheaper_1 ?_
    refine g_iconst (pc := 2) hX dL_cheaper_2 ?_
    refine g_callD (pc := 3) (As := [vI (p), vI (0)]) (st2 := []) hX hA.N hA.e (q_parcel hA (p := p) (x := 0) (by omega) (by omega) (by omega) (by omega)) gL_cheaper_X6_parcel (n := 2) (hw := rfl) (hrc := rfl) (hrs := rfl) (hd := by decide +kernel) (hR := ⟨Nat.le_of_ble_eq_true rfl, Nat.le_of_ble_eq_true rfl⟩) (hn := rfl) (hst := rfl) (hsum := Nat.le_of_ble_eq_true rfl) (hdg := dL_cheaper_3) ?_
    rintro _ S9 ⟨rfl, e9⟩
    rw [e9]
    clear e9 S9
    refine g_at (pc2 := 6) rfl rfl (st2 := [vI (sP D p 0)]) rfl (S2 := S) rfl ?_
    refine g_istore_n (pc := 6) hX (lv2 := [(2, vI (sP D p 0)), (0, .ref (gw_ad w 0)), (1, vI (p))]) rfl (by decide) rfl dL_cheaper_6 ?_
    refine g_aload_n (pc := 7) hX 1 rfl dL_cheaper_7 ?_
    refine g_iload_n (pc := 8) hX 2 rfl dL_cheaper_8 ?_
    refine g_iconst (pc := 9) hX dL_cheaper_9 ?_
    refine g_callD (pc := 10) (As := [vI (p), vI (1)]) (st2 := []) hX hA.N hA.e (q_parcel hA (p := p) (x := 1) (by omega) (by omega) (by omega) (by omega)) gL_cheaper_X6_parcel (n := 2) (hw := rfl) (hrc := rfl) (hrs := rfl) (hd := by decide +kernel) (hR := ⟨Nat.le_of_ble_eq_true rfl, Nat.le_of_ble_eq_true rfl⟩) (hn := rfl) (hst := rfl) (hsum := Nat.le_of_ble_eq_true rfl) (hdg := dL_cheaper_10) ?_
    rintro _ S9 ⟨rfl, e9⟩
    rw [e9]
    clear e9 S9
    refine g_at (pc2 := 13) rfl rfl (st2 := [vI (sP D p 1)]) rfl (S2 := S) rfl ?_
    refine g_istore_n (pc := 13) hX (lv2 := [(3, vI (sP D p 1)), (2, vI (sP D p 0)), (0, .ref (gw_ad w 0)), (1, vI (p))]) rfl (by decide) rfl dL_cheaper_13 ?_
    refine g_aload_n (pc := 14) hX 2 rfl dL_cheaper_14 ?_
    refine g_iload_n (pc := 15) hX 3 rfl dL_cheaper_15 ?_
    refine g_iconst (pc := 16) hX dL_cheaper_16 ?_
    refine g_callD (pc := 17) (As := [vI (p), vI (2)]) (st2 := []) hX hA.N hA.e (q_parcel hA (p := p) (x := 2) (by omega) (by omega) (by omega) (by omega)) gL_cheaper_X6_parcel (n := 2) (hw := rfl) (hrc := rfl) (hrs := rfl) (hd := by decide +kernel) (hR := ⟨Nat.le_of_ble_eq_true rfl, Nat.le_of_ble_eq_true rfl⟩) (hn := rfl) (hst := rfl) (hsum := Nat.le_of_ble_eq_true rfl) (hdg := dL_cheaper_17) ?_
    rintro _ S9 ⟨rfl, e9⟩
    rw [e9]
    clear e9 S9
    refine g_at (pc2 := 20) rfl rfl (st2 := [vI (sP D p 2)]) rfl (S2 := S) rfl ?_
    refine g_istore (pc := 20) hX (lv2 := [(4, vI (sP D p 2)), (3, vI (sP D p 1)), (2, vI (sP D p 0)), (0, .ref (gw_ad w 0)), (1, vI (p))]) (by decide) rfl dL_cheaper_20 ?_
    refine g_aload_n (pc := 22) hX 3 rfl dL_cheaper_22 ?_
    refine g_iload_n (pc := 23) hX 4 rfl dL_cheaper_23 ?_
    refine g_iconst (pc := 24) hX dL_cheaper_24 ?_
    refine g_callD (pc := 25) (As := [vI (p), vI (3)]) (st2 := []) hX hA.N hA.e (q_parcel hA (p := p) (x := 3) (by omega) (by omega) (by omega) (by omega)) gL_cheaper_X6_parcel (n := 2) (hw := rfl) (hrc := rfl) (hrs := rfl) (hd := by decide +kernel) (hR := ⟨Nat.le_of_ble_eq_true rfl, Nat.le_of_ble_eq_true rfl⟩) (hn := rfl) (hst := rfl) (hsum := Nat.le_of_ble_eq_true rfl) (hdg := dL_cheaper_25) ?_
    rintro _ S9 ⟨rfl, e9⟩
    rw [e9]
    clear e9 S9
    refine g_at (pc2 := 28) rfl rfl (st2 := [vI (sP D p 3)]) rfl (S2 := S) rfl ?_
    refine g_istore (pc := 28) hX (lv2 := [(5, vI (sP D p 3)), (4, vI (sP D p 2)), (3, vI (sP D p 1)), (2, vI (sP D p 0)), (0, .ref (gw_ad w 0)), (1, vI (p))]) (by decide) rfl dL_cheaper_28 ?_
    refine g_aload_n (pc := 30) hX 4 rfl dL_cheaper_30 ?_
    refine g_iload_n (pc := 31) hX 5 rfl dL_cheaper_31 ?_
    refine g_iconst (pc := 32) hX dL_cheaper_32 ?_
    refine g_callD (pc := 33) (As := [vI (p), vI (4)]) (st2 := []) hX hA.N hA.e (q_parcel hA (p := p) (x := 4) (by omega) (by omega) (by omega) (by omega)) gL_cheaper_X6_parcel (n := 2) (hw := rfl) (hrc := rfl) (hrs := rfl) (hd := by decide +kernel) (hR := ⟨Nat.le_of_ble_eq_true rfl, Nat.le_of_ble_eq_true rfl⟩) (hn := rfl) (hst := rfl) (hsum := Nat.le_of_ble_eq_true rfl) (hdg := dL_cheaper_33) ?_
    rintro _ S9 ⟨rfl, e9⟩
    rw [e9]
    clear e9 S9
    refine g_at (pc2 := 36) rfl rfl (st2 := [vI (sP D p 4)]) rfl (S2 := S) rfl ?_
    refine g_istore (pc := 36) hX (lv2 := [(6, vI (sP D p 4)), (5, vI (sP D p 3)), (4, vI (sP D p 2)), (3, vI (sP D p 1)), (2, vI (sP D p 0)), (0, .ref (gw_ad w 0)), (1, vI (p))]) (by decide) rfl dL_cheaper_36 ?_
    refine g_iload_n (pc := 38) hX 4 rfl dL_cheaper_38 ?_
    refine g_ldc (pc := 39) hX (z := 100000) (List.mem_of_getElem? (i := 1) rfl) (by decide +kernel) dL_cheaper_39 ?_
    refine g_icmp_le (pc := 41) (tgt := 46) hX (by first | assumption | exact inI_mk (by omega) (by omega)) (by first | assumption | exact inI_mk (by omega) (by omega)) dL_cheaper_41 (by decide) (fun c_41 => ?_) (fun c_41 => ?_)
    · skip
      refine g_aload_n (pc := 46) hX 5 rfl dL_cheaper_46 ?_
      refine g_iload_n (pc := 47) hX 4 rfl dL_cheaper_47 ?_
      refine g_iload_n (pc := 48) hX 3 rfl dL_cheaper_48 ?_
      refine g_iload (pc := 49) hX 2 rfl dL_cheaper_49 ?_
      refine g_iload (pc := 51) hX 1 rfl dL_cheaper_51 ?_
      refine g_iload (pc := 53) hX 0 rfl dL_cheaper_53 ?_
      refine g_callD (pc := 55) (As := [vI (sP D p 0), vI (sP D p 1), vI (sP D p 2), vI (sP D p 3), vI (sP D p 4)]) (st2 := []) hX hA.N hA.e (qF_quote eF hA (m := sP D p 0) (a := sP D p 1) (b := sP D p 2) (c := sP D p 3) (z := sP D p 4) ⟨by omega, by omega⟩ ⟨by omega, by omega⟩ ⟨by omega, by omega⟩ ⟨by omega, by omega⟩ ⟨by omega, by omega⟩ hc) gL_cheaper_X6_quote (n := 5) (hw := rfl) (hrc := rfl) (hrs := rfl) (hd := by decide +kernel) (hR := ⟨Nat.le_of_ble_eq_true rfl, Nat.le_of_ble_eq_true rfl⟩) (hn := rfl) (hst := rfl) (hsum := Nat.le_of_ble_eq_true rfl) (hdg := dL_cheaper_55) ?_
      rintro _ S55 ⟨rfl, hA55⟩
      refine g_at (pc2 := 58) rfl rfl (st2 := [vI (F (sP D p 0) (sP D p 1) (sP D p 2) (sP D p 3) (sP D p 4))]) rfl (S2 := S55) rfl ?_
      have hq55 := F_b eF hA.ok (m := sP D p 0) (a := sP D p 1) (b := sP D p 2) (c := sP D p 3) (z := sP D p 4) ⟨by omega, by omega⟩ ⟨by omega, by omega⟩ ⟨by omega, by omega⟩ ⟨by omega, by omega⟩ ⟨by omega, by omega⟩ hc
      refine g_istore (pc := 58) hX (lv2 := [(7, vI (F (sP D p 0) (sP D p 1) (sP D p 2) (sP D p 3) (sP D p 4))), (6, vI (sP D p 4)), (5, vI (sP D p 3)), (4, vI (sP D p 2)), (3, vI (sP D p 1)), (2, vI (sP D p 0)), (0, .ref (gw_ad w 0)), (1, vI (p))]) (by decide) rfl dL_cheaper_58 ?_
      refine g_aload_n (pc := 60) hX 6 rfl dL_cheaper_60 ?_
      refine g_iload_n (pc := 61) hX 7 rfl dL_cheaper_61 ?_
      refine g_callD (pc := 62) (As := [vI (p)]) (st2 := []) hX hA55.N hA55.e (qF_lighter eF hA55 (p := p) p0 p1 hc) gL_cheaper_X6_lighter (n := 1) (hw := rfl) (hrc := rfl) (hrs := rfl) (hd := by decide +kernel) (hR := ⟨Nat.le_of_ble_eq_true rfl, Nat.le_of_ble_eq_true rfl⟩) (hn := rfl) (hst := rfl) (hsum := Nat.le_of_ble_eq_true rfl) (hdg := dL_cheaper_62) ?_
      rintro _ S62 ⟨lr, rfl, hlt, hA62⟩
      refine g_at (pc2 := 65) rfl rfl (st2 := [vI (lr)]) rfl (S2 := S62) rfl ?_
      have hl1 : inI lr := by rcases hlt with ⟨q, -⟩ | ⟨q1, q2, -⟩ <;> exact ⟨by omega, by omega⟩
      refine g_istore (pc := 65) hX (lv2 := [(8, vI (lr)), (7, vI (F (sP D p 0) (sP D p 1) (sP D p 2) (sP D p 3) (sP D p 4))), (6, vI (sP D p 4)), (5, vI (sP D p 3)), (4, vI (sP D p 2)), (3, vI (sP D p 1)), (2, vI (sP D p 0)), (0, .ref (gw_ad w 0)), (1, vI (p))]) (by decide) rfl dL_cheaper_65 ?_
      refine g_aload_n (pc := 67) hX 7 rfl dL_cheaper_67 ?_
      refine g_iload_n (pc := 68) hX 8 rfl dL_cheaper_68 ?_
      refine g_iconst (pc := 69) hX dL_cheaper_69 ?_
      refine g_callD (pc := 70) (As := [vI (p), vI (2)]) (st2 := []) hX hA62.N hA62.e (qF_shorter eF hA62 (p := p) p0 p1 hc) gL_cheaper_X6_shorter (n := 2) (hw := rfl) (hrc := rfl) (hrs := rfl) (hd := by decide +kernel) (hR := ⟨Nat.le_of_ble_eq_true rfl, Nat.le_of_ble_eq_true rfl⟩) (hn := rfl) (hst := rfl) (hsum := Nat.le_of_ble_eq_true rfl) (hdg := dL_cheaper_70) ?_
      rintro _ S70 ⟨sr, rfl, hsh, hA70⟩
      refine g_at (pc2 := 73) rfl rfl (st2 := [vI (sr)]) rfl (S2 := S70) rfl ?_
      have hs1 : inI sr := by rcases hsh with q | ⟨q1, q2, -⟩ <;> exact ⟨by omega, by omega⟩
      refine g_istore (pc := 73) hX (lv2 := [(9, vI (sr)), (8, vI (lr)), (7, vI (F (sP D p 0) (sP D p 1) (sP D p 2) (sP D p 3) (sP D p 4))), (6, vI (sP D p 4)), (5, vI (sP D p 3)), (4, vI (sP D p 2)), (3, vI (sP D p 1)), (2, vI (sP D p 0)), (0, .ref (gw_ad w 0)), (1, vI (p))]) (by decide) rfl dL_cheaper_73 ?_
      refine g_aload_n (pc := 75) hX 8 rfl dL_cheaper_75 ?_
      refine g_iload_n (pc := 76) hX 9 rfl dL_cheaper_76 ?_
      refine g_callD (pc := 77) (As := [vI (p)]) (st2 := []) hX hA70.N hA70.e (qF_cheapest eF hA70 (p := p) p0 p1) gL_cheaper_X6_cheapest (n := 1) (hw := rfl) (hrc := rfl) (hrs := rfl) (hd := by decide +kernel) (hR := ⟨Nat.le_of_ble_eq_true rfl, Nat.le_of_ble_eq_true rfl⟩) (hn := rfl) (hst := rfl) (hsum := Nat.le_of_ble_eq_true rfl) (hdg := dL_cheaper_77) ?_
      rintro _ S77 ⟨cr, rfl, hch, hA77⟩
      refine g_at (pc2 := 80) rfl rfl (st2 := [vI (cr)]) rfl (S2 := S77) rfl ?_
      have hc1 : inI cr := by rcases hch with ⟨q, -⟩ | ⟨q1, q2, -⟩ <;> exact ⟨by omega, by omega⟩
      refine g_istore (pc := 80) hX (lv2 := [(10, vI (cr)), (9, vI (sr)), (8, vI (lr)), (7, vI (F (sP D p 0) (sP D p 1) (sP D p 2) (sP D p 3) (sP D p 4))), (6, vI (sP D p 4)), (5, vI (sP D p 3)), (4, vI (sP D p 2)), (3, vI (sP D p 1)), (2, vI (sP D p 0)), (0, .ref (gw_ad w 0)), (1, vI (p))]) (by decide) rfl dL_cheaper_80 ?_
      refine g_iload (pc := 82) hX 3 rfl dL_cheaper_82 ?_
      refine g_ldc (pc := 84) hX (z := -1000002) (List.mem_of_getElem? (i := 2) rfl) (by decide +kernel) dL_cheaper_84 ?_
      refine g_icmp_ne (pc := 86) (tgt := 116) hX (by first | assumption | exact inI_mk (by omega) (by omega)) (by first | assumption | exact inI_mk (by omega) (by omega)) dL_cheaper_86 (by decide) (fun c_86 => ?_) (fun c_86 => ?_)
      · skip
        have hcb := hch.resolve_left (fun q => q.2 (sP D p 4) (by omega) (by omega) hc)
        obtain ⟨hcr0, hcr4, hcr, hcm⟩ := hcb
        refine g_iload (pc := 116) hX 2 rfl dL_cheaper_116 ?_
        have j2 : ∀ (S2 : Nat → va_E), (A0 w D S2) → G w { frames := 7, cells := 0, slots := 0, locals := 176 } X 12 254 [(0, .ref (gw_ad w 0)), (1, vI (p)), (2, vI (sP D p 0)), (3, vI (sP D p 1)), (4, vI (sP D p 2)), (5, vI (sP D p 3)), (6, vI (sP D p 4)), (7, vI (F (sP D p 0) (sP D p 1) (sP D p 2) (sP D p 3) (sP D p 4))), (8, vI (lr)), (9, vI (sr)), (10, vI (cr))] [vI (1)] S2 := by
          intro S2 hA2
          refine g_istore (pc := 254) hX (lv2 := [(11, vI (1)), (0, .ref (gw_ad w 0)), (1, vI (p)), (2, vI (sP D p 0)), (3, vI (sP D p 1)), (4, vI (sP D p 2)), (5, vI (sP D p 3)), (6, vI (sP D p 4)), (7, vI (F (sP D p 0) (sP D p 1) (sP D p 2) (sP D p 3) (sP D p 4))), (8, vI (lr)), (9, vI (sr)), (10, vI (cr))]) (by decide) rfl dL_cheaper_254 ?_
          refine g_iload (pc := 256) hX 0 rfl dL_cheaper_256 ?_
          refine g_if_eq (pc := 258) (tgt := 317) hX (by first | assumption | exact inI_mk (by omega) (by omega)) dL_cheaper_258 (by decide) (fun c_258 => ?_) (fun c_258 => ?_)
          · skip
            exact absurd c_258 (by omega)
          · skip
            refine g_iload (pc := 261) hX 11 rfl dL_cheaper_261 ?_
            refine g_if_lt (pc := 263) (tgt := 317) hX (by first | assumption | exact inI_mk (by omega) (by omega)) dL_cheaper_263 (by decide) (fun c_263 => ?_) (fun c_263 => ?_)
            · skip
              omega
            · skip
              refine g_iload (pc := 266) hX 11 rfl dL_cheaper_266 ?_
              refine g_iconst (pc := 268) hX dL_cheaper_268 ?_
              refine g_icmp_ge (pc := 269) (tgt := 317) hX (by first | assumption | exact inI_mk (by omega) (by omega)) (by first | assumption | exact inI_mk (by omega) (by omega)) dL_cheaper_269 (by decide) (fun c_269 => ?_) (fun c_269 => ?_)
              · skip
                omega
              · skip
                refine g_aload_n (pc := 272) hX 1 rfl dL_cheaper_272 ?_
                refine g_iload_n (pc := 273) hX 3 rfl dL_cheaper_273 ?_
                refine g_iload_n (pc := 274) hX 4 rfl dL_cheaper_274 ?_
                refine g_iload (pc := 275) hX 5 rfl dL_cheaper_275 ?_
                refine g_iload (pc := 277) hX 6 rfl dL_cheaper_277 ?_
                refine g_iload (pc := 279) hX 11 rfl dL_cheaper_279 ?_
                refine g_callD (pc := 281) (As := [vI (sP D p 0), vI (sP D p 1), vI (sP D p 2), vI (sP D p 3), vI (cr)]) (st2 := []) hX hA2.N hA2.e (qF_quote eF hA2 (m := sP D p 0) (a := sP D p 1) (b := sP D p 2) (c := sP D p 3) (z := cr) ⟨by omega, by omega⟩ ⟨by omega, by omega⟩ ⟨by omega, by omega⟩ ⟨by omega, by omega⟩ ⟨by omega, by omega⟩ hcr) gL_cheaper_X6_quote (n := 5) (hw := rfl) (hrc := rfl) (hrs := rfl) (hd := by decide +kernel) (hR := ⟨Nat.le_of_ble_eq_true rfl, Nat.le_of_ble_eq_true rfl⟩) (hn := rfl) (hst := rfl) (hsum := Nat.le_of_ble_eq_true rfl) (hdg := dL_cheaper_281) ?_
                rintro _ S281 ⟨rfl, hA281⟩
                refine g_at (pc2 := 284) rfl rfl (st2 := [vI (F (sP D p 0) (sP D p 1) (sP D p 2) (sP D p 3) cr)]) rfl (S2 := S281) rfl ?_
                have hq281 := F_b eF hA.ok (m := sP D p 0) (a := sP D p 1) (b := sP D p 2) (c := sP D p 3) (z := cr) ⟨by omega, by omega⟩ ⟨by omega, by omega⟩ ⟨by omega, by omega⟩ ⟨by omega, by omega⟩ ⟨by omega, by omega⟩ hcr
                refine g_iload (pc := 284) hX 8 rfl dL_cheaper_284 ?_
                refine g_icmp_gt (pc := 286) (tgt := 317) hX (by first | assumption | exact inI_mk (by omega) (by omega)) (by first | assumption | exact inI_mk (by omega) (by omega)) dL_cheaper_286 (by decide) (fun c_286 => ?_) (fun c_286 => ?_)
                · skip
                  exact absurd c_286 (by have := hcm (sP D p 4) (by omega) (by omega) hc; omega)
                · skip
                  refine g_iload (pc := 289) hX 9 rfl dL_cheaper_289 ?_
                  refine g_ldc (pc := 291) hX (z := -1000009) (List.mem_of_getElem? (i := 3) rfl) (by decide +kernel) dL_cheaper_291 ?_
                  refine g_icmp_ne (pc := 293) (tgt := 313) hX (by first | assumption | exact inI_mk (by omega) (by omega)) (by first | assumption | exact inI_mk (by omega) (by omega)) dL_cheaper_293 (by decide) (fun c_293 => ?_) (fun c_293 => ?_)
                  · skip
                    refine g_iconst (pc := 313) hX dL_cheaper_313 ?_
                    refine g_goto (pc := 314) (tgt := 318) hX dL_cheaper_314 (by decide) ?_
                    refine g_at rfl rfl (st2 := [vI (bz true)]) rfl rfl ?_
                    refine g_zret (pc := 318) hX hR dL_cheaper_318 ?_
                    exact ⟨rfl, hA281⟩
                  · skip
                    refine g_aload_n (pc := 296) hX 1 rfl dL_cheaper_296 ?_
                    refine g_iconst (pc := 297) hX dL_cheaper_297 ?_
                    refine g_iload_n (pc := 298) hX 4 rfl dL_cheaper_298 ?_
                    refine g_iload (pc := 299) hX 5 rfl dL_cheaper_299 ?_
                    refine g_iload (pc := 301) hX 6 rfl dL_cheaper_301 ?_
                    refine g_iload (pc := 303) hX 7 rfl dL_cheaper_303 ?_
                    refine g_callD (pc := 305) (As := [vI (1), vI (sP D p 1), vI (sP D p 2), vI (sP D p 3), vI (sP D p 4)]) (st2 := []) hX hA281.N hA281.e (qF_quote eF hA281 (m := 1) (a := sP D p 1) (b := sP D p 2) (c := sP D p 3) (z := sP D p 4) ⟨by omega, by omega⟩ ⟨by omega, by omega⟩ ⟨by omega, by omega⟩ ⟨by omega, by omega⟩ ⟨by omega, by omega⟩ hc) gL_cheaper_X6_quote (n := 5) (hw := rfl) (hrc := rfl) (hrs := rfl) (hd := by decide +kernel) (hR := ⟨Nat.le_of_ble_eq_true rfl, Nat.le_of_ble_eq_true rfl⟩) (hn := rfl) (hst := rfl) (hsum := Nat.le_of_ble_eq_true rfl) (hdg := dL_cheaper_305) ?_
                    rintro _ S305 ⟨rfl, hA305⟩
                    refine g_at (pc2 := 308) rfl rfl (st2 := [vI (F 1 (sP D p 1) (sP D p 2) (sP D p 3) (sP D p 4))]) rfl (S2 := S305) rfl ?_
                    have hq305 := F_b eF hA.ok (m := 1) (a := sP D p 1) (b := sP D p 2) (c := sP D p 3) (z := sP D p 4) ⟨by omega, by omega⟩ ⟨by omega, by omega⟩ ⟨by omega, by omega⟩ ⟨by omega, by omega⟩ ⟨by omega, by omega⟩ hc
                    refine g_iload (pc := 308) hX 8 rfl dL_cheaper_308 ?_
                    refine g_icmp_lt (pc := 310) (tgt := 317) hX (by first | assumption | exact inI_mk (by omega) (by omega)) (by first | assumption | exact inI_mk (by omega) (by omega)) dL_cheaper_310 (by decide) (fun c_310 => ?_) (fun c_310 => ?_)
                    · skip
                      exact absurd c_310 (by have := hlt.elim (fun q => q.2 1 (by decide) (by omega)) (fun q => by omega); omega)
                    · skip
                      refine g_iconst (pc := 313) hX dL_cheaper_313 ?_
                      refine g_goto (pc := 314) (tgt := 318) hX dL_cheaper_314 (by decide) ?_
                      refine g_at rfl rfl (st2 := [vI (bz true)]) rfl rfl ?_
                      refine g_zret (pc := 318) hX hR dL_cheaper_318 ?_
                      exact ⟨rfl, hA305⟩
        have j1 : ∀ (S1 : Nat → va_E), (A0 w D S1) → G w { frames := 7, cells := 0, slots := 0, locals := 176 } X 12 181 [(0, .ref (gw_ad w 0)), (1, vI (p)), (2, vI (sP D p 0)), (3, vI (sP D p 1)), (4, vI (sP D p 2)), (5, vI (sP D p 3)), (6, vI (sP D p 4)), (7, vI (F (sP D p 0) (sP D p 1) (sP D p 2) (sP D p 3) (sP D p 4))), (8, vI (lr)), (9, vI (sr)), (10, vI (cr))] [vI (1)] S1 := by
          intro S1 hA1
          refine g_istore (pc := 181) hX (lv2 := [(11, vI (1)), (0, .ref (gw_ad w 0)), (1, vI (p)), (2, vI (sP D p 0)), (3, vI (sP D p 1)), (4, vI (sP D p 2)), (5, vI (sP D p 3)), (6, vI (sP D p 4)), (7, vI (F (sP D p 0) (sP D p 1) (sP D p 2) (sP D p 3) (sP D p 4))), (8, vI (lr)), (9, vI (sr)), (10, vI (cr))]) (by decide) rfl dL_cheaper_181 ?_
          refine g_iload (pc := 183) hX 0 rfl dL_cheaper_183 ?_
          refine g_if_eq (pc := 185) (tgt := 253) hX (by first | assumption | exact inI_mk (by omega) (by omega)) dL_cheaper_185 (by decide) (fun c_185 => ?_) (fun c_185 => ?_)
          · skip
            exact absurd c_185 (by omega)
          · skip
            refine g_iload (pc := 188) hX 10 rfl dL_cheaper_188 ?_
            refine g_ldc (pc := 190) hX (z := -1000009) (List.mem_of_getElem? (i := 3) rfl) (by decide +kernel) dL_cheaper_190 ?_
            refine g_icmp_eq (pc := 192) (tgt := 249) hX (by first | assumption | exact inI_mk (by omega) (by omega)) (by first | assumption | exact inI_mk (by omega) (by omega)) dL_cheaper_192 (by decide) (fun c_192 => ?_) (fun c_192 => ?_)
            · skip
              refine g_iconst (pc := 249) hX dL_cheaper_249 ?_
              refine g_goto (pc := 250) (tgt := 254) hX dL_cheaper_250 (by decide) ?_
              refine g_sub (lv2 := [(0, .ref (gw_ad w 0)), (1, vI (p)), (2, vI (sP D p 0)), (3, vI (sP D p 1)), (4, vI (sP D p 2)), (5, vI (sP D p 3)), (6, vI (sP D p 4)), (7, vI (F (sP D p 0) (sP D p 1) (sP D p 2) (sP D p 3) (sP D p 4))), (8, vI (lr)), (9, vI (sr)), (10, vI (cr))]) [1, 2, 3, 4, 5, 6, 7, 8, 9, 10, 11] rfl ?_
              exact j2 (S1) (hA1)
            · skip
              have hsr := (hsh.resolve_left (fun q => c_192 q))
              refine g_iload (pc := 195) hX 10 rfl dL_cheaper_195 ?_
              refine g_if_le (pc := 197) (tgt := 253) hX (by first | assumption | exact inI_mk (by omega) (by omega)) dL_cheaper_197 (by decide) (fun c_197 => ?_) (fun c_197 => ?_)
              · skip
                omega
              · skip
                refine g_iload (pc := 200) hX 10 rfl dL_cheaper_200 ?_
                refine g_iload (pc := 202) hX 5 rfl dL_cheaper_202 ?_
                refine g_icmp_ge (pc := 204) (tgt := 253) hX (by first | assumption | exact inI_mk (by omega) (by omega)) (by first | assumption | exact inI_mk (by omega) (by omega)) dL_cheaper_204 (by decide) (fun c_204 => ?_) (fun c_204 => ?_)
                · skip
                  omega
                · skip
                  refine g_aload_n (pc := 207) hX 1 rfl dL_cheaper_207 ?_
                  refine g_iload_n (pc := 208) hX 3 rfl dL_cheaper_208 ?_
                  refine g_iload_n (pc := 209) hX 4 rfl dL_cheaper_209 ?_
                  refine g_iload (pc := 210) hX 5 rfl dL_cheaper_210 ?_
                  refine g_iload (pc := 212) hX 10 rfl dL_cheaper_212 ?_
                  refine g_isub (pc := 214) hX dL_cheaper_214 ?_
                  refine g_iload (pc := 215) hX 6 rfl dL_cheaper_215 ?_
                  refine g_iload (pc := 217) hX 7 rfl dL_cheaper_217 ?_
                  refine g_callD (pc := 219) (As := [vI (sP D p 0), vI (sP D p 1), vI ((sP D p 2) - sr), vI (sP D p 3), vI (sP D p 4)]) (st2 := []) hX hA1.N hA1.e (qF_quote eF hA1 (m := sP D p 0) (a := sP D p 1) (b := (sP D p 2) - sr) (c := sP D p 3) (z := sP D p 4) ⟨by omega, by omega⟩ ⟨by omega, by omega⟩ ⟨by omega, by omega⟩ ⟨by omega, by omega⟩ ⟨by omega, by omega⟩ hc) gL_cheaper_X6_quote (n := 5) (hw := rfl) (hrc := rfl) (hrs := rfl) (hd := by decide +kernel) (hR := ⟨Nat.le_of_ble_eq_true rfl, Nat.le_of_ble_eq_true rfl⟩) (hn := rfl) (hst := rfl) (hsum := Nat.le_of_ble_eq_true rfl) (hdg := dL_cheaper_219) ?_
                  rintro _ S219 ⟨rfl, hA219⟩
                  refine g_at (pc2 := 222) rfl rfl (st2 := [vI (F (sP D p 0) (sP D p 1) ((sP D p 2) - sr) (sP D p 3) (sP D p 4))]) rfl (S2 := S219) rfl ?_
                  have hq219 := F_b eF hA.ok (m := sP D p 0) (a := sP D p 1) (b := (sP D p 2) - sr) (c := sP D p 3) (z := sP D p 4) ⟨by omega, by omega⟩ ⟨by omega, by omega⟩ ⟨by omega, by omega⟩ ⟨by omega, by omega⟩ ⟨by omega, by omega⟩ hc
                  refine g_iload (pc := 222) hX 8 rfl dL_cheaper_222 ?_
                  refine g_icmp_ge (pc := 224) (tgt := 253) hX (by first | assumption | exact inI_mk (by omega) (by omega)) (by first | assumption | exact inI_mk (by omega) (by omega)) dL_cheaper_224 (by decide) (fun c_224 => ?_) (fun c_224 => ?_)
                  · skip
                    exact absurd c_224 (by have := hsr.2.2.1; omega)
                  · skip
                    refine g_aload_n (pc := 227) hX 1 rfl dL_cheaper_227 ?_
                    refine g_iload_n (pc := 228) hX 3 rfl dL_cheaper_228 ?_
                    refine g_iload_n (pc := 229) hX 4 rfl dL_cheaper_229 ?_
                    refine g_iload (pc := 230) hX 5 rfl dL_cheaper_230 ?_
                    refine g_iload (pc := 232) hX 10 rfl dL_cheaper_232 ?_
                    refine g_isub (pc := 234) hX dL_cheaper_234 ?_
                    refine g_iconst (pc := 235) hX dL_cheaper_235 ?_
                    refine g_iadd (pc := 236) hX dL_cheaper_236 ?_
                    refine g_iload (pc := 237) hX 6 rfl dL_cheaper_237 ?_
                    refine g_iload (pc := 239) hX 7 rfl dL_cheaper_239 ?_
                    refine g_callD (pc := 241) (As := [vI (sP D p 0), vI (sP D p 1), vI (((sP D p 2) - sr) + 1), vI (sP D p 3), vI (sP D p 4)]) (st2 := []) hX hA219.N hA219.e (qF_quote eF hA219 (m := sP D p 0) (a := sP D p 1) (b := ((sP D p 2) - sr) + 1) (c := sP D p 3) (z := sP D p 4) ⟨by omega, by omega⟩ ⟨by omega, by omega⟩ ⟨by omega, by omega⟩ ⟨by omega, by omega⟩ ⟨by omega, by omega⟩ hc) gL_cheaper_X6_quote (n := 5) (hw := rfl) (hrc := rfl) (hrs := rfl) (hd := by decide +kernel) (hR := ⟨Nat.le_of_ble_eq_true rfl, Nat.le_of_ble_eq_true rfl⟩) (hn := rfl) (hst := rfl) (hsum := Nat.le_of_ble_eq_true rfl) (hdg := dL_cheaper_241) ?_
                    rintro _ S241 ⟨rfl, hA241⟩
                    refine g_at (pc2 := 244) rfl rfl (st2 := [vI (F (sP D p 0) (sP D p 1) (((sP D p 2) - sr) + 1) (sP D p 3) (sP D p 4))]) rfl (S2 := S241) rfl ?_
                    have hq241 := F_b eF hA.ok (m := sP D p 0) (a := sP D p 1) (b := ((sP D p 2) - sr) + 1) (c := sP D p 3) (z := sP D p 4) ⟨by omega, by omega⟩ ⟨by omega, by omega⟩ ⟨by omega, by omega⟩ ⟨by omega, by omega⟩ ⟨by omega, by omega⟩ hc
                    refine g_iload (pc := 244) hX 8 rfl dL_cheaper_244 ?_
                    refine g_icmp_lt (pc := 246) (tgt := 253) hX (by first | assumption | exact inI_mk (by omega) (by omega)) (by first | assumption | exact inI_mk (by omega) (by omega)) dL_cheaper_246 (by decide) (fun c_246 => ?_) (fun c_246 => ?_)
                    · skip
                      exact absurd c_246 (by have := hsr.2.2.2; omega)
                    · skip
                      refine g_iconst (pc := 249) hX dL_cheaper_249 ?_
                      refine g_goto (pc := 250) (tgt := 254) hX dL_cheaper_250 (by decide) ?_
                      refine g_sub (lv2 := [(0, .ref (gw_ad w 0)), (1, vI (p)), (2, vI (sP D p 0)), (3, vI (sP D p 1)), (4, vI (sP D p 2)), (5, vI (sP D p 3)), (6, vI (sP D p 4)), (7, vI (F (sP D p 0) (sP D p 1) (sP D p 2) (sP D p 3) (sP D p 4))), (8, vI (lr)), (9, vI (sr)), (10, vI (cr))]) [1, 2, 3, 4, 5, 6, 7, 8, 9, 10, 11] rfl ?_
                      exact j2 (S241) (hA241)
        refine g_ldc (pc := 118) hX (z := -1000009) (List.mem_of_getElem? (i := 3) rfl) (by decide +kernel) dL_cheaper_118 ?_
        refine g_icmp_eq (pc := 120) (tgt := 176) hX (by first | assumption | exact inI_mk (by omega) (by omega)) (by first | assumption | exact inI_mk (by omega) (by omega)) dL_cheaper_120 (by decide) (fun c_120 => ?_) (fun c_120 => ?_)
        · skip
          refine g_iconst (pc := 176) hX dL_cheaper_176 ?_
          refine g_goto (pc := 177) (tgt := 181) hX dL_cheaper_177 (by decide) ?_
          refine g_sub (lv2 := [(0, .ref (gw_ad w 0)), (1, vI (p)), (2, vI (sP D p 0)), (3, vI (sP D p 1)), (4, vI (sP D p 2)), (5, vI (sP D p 3)), (6, vI (sP D p 4)), (7, vI (F (sP D p 0) (sP D p 1) (sP D p 2) (sP D p 3) (sP D p 4))), (8, vI (lr)), (9, vI (sr)), (10, vI (cr))]) [9, 10, 8, 7, 6, 5, 4, 3, 2, 1, 0] rfl ?_
          exact j1 (S77) (hA77)
        · skip
          have hlr := (hlt.resolve_left (fun q => c_120 q.1))
          refine g_iload (pc := 123) hX 2 rfl dL_cheaper_123 ?_
          refine g_if_le (pc := 125) (tgt := 180) hX (by first | assumption | exact inI_mk (by omega) (by omega)) dL_cheaper_125 (by decide) (fun c_125 => ?_) (fun c_125 => ?_)
          · skip
            omega
          · skip
            refine g_iload (pc := 128) hX 2 rfl dL_cheaper_128 ?_
            refine g_iload_n (pc := 130) hX 8 rfl dL_cheaper_130 ?_
            refine g_icmp_ge (pc := 131) (tgt := 180) hX (by first | assumption | exact inI_mk (by omega) (by omega)) (by first | assumption | exact inI_mk (by omega) (by omega)) dL_cheaper_131 (by decide) (fun c_131 => ?_) (fun c_131 => ?_)
            · skip
              omega
            · skip
              refine g_aload_n (pc := 134) hX 9 rfl dL_cheaper_134 ?_
              refine g_iload_n (pc := 135) hX 8 rfl dL_cheaper_135 ?_
              refine g_iload (pc := 136) hX 2 rfl dL_cheaper_136 ?_
              refine g_isub (pc := 138) hX dL_cheaper_138 ?_
              refine g_iload_n (pc := 139) hX 7 rfl dL_cheaper_139 ?_
              refine g_iload (pc := 140) hX 6 rfl dL_cheaper_140 ?_
              refine g_iload (pc := 142) hX 5 rfl dL_cheaper_142 ?_
              refine g_iload (pc := 144) hX 4 rfl dL_cheaper_144 ?_
              refine g_callD (pc := 146) (As := [vI ((sP D p 0) - lr), vI (sP D p 1), vI (sP D p 2), vI (sP D p 3), vI (sP D p 4)]) (st2 := []) hX hA77.N hA77.e (qF_quote eF hA77 (m := (sP D p 0) - lr) (a := sP D p 1) (b := sP D p 2) (c := sP D p 3) (z := sP D p 4) ⟨by omega, by omega⟩ ⟨by omega, by omega⟩ ⟨by omega, by omega⟩ ⟨by omega, by omega⟩ ⟨by omega, by omega⟩ hc) gL_cheaper_X6_quote (n := 5) (hw := rfl) (hrc := rfl) (hrs := rfl) (hd := by decide +kernel) (hR := ⟨Nat.le_of_ble_eq_true rfl, Nat.le_of_ble_eq_true rfl⟩) (hn := rfl) (hst := rfl) (hsum := Nat.le_of_ble_eq_true rfl) (hdg := dL_cheaper_146) ?_
              rintro _ S146 ⟨rfl, hA146⟩
              refine g_at (pc2 := 149) rfl rfl (st2 := [vI (F ((sP D p 0) - lr) (sP D p 1) (sP D p 2) (sP D p 3) (sP D p 4))]) rfl (S2 := S146) rfl ?_
              have hq146 := F_b eF hA.ok (m := (sP D p 0) - lr) (a := sP D p 1) (b := sP D p 2) (c := sP D p 3) (z := sP D p 4) ⟨by omega, by omega⟩ ⟨by omega, by omega⟩ ⟨by omega, by omega⟩ ⟨by omega, by omega⟩ ⟨by omega, by omega⟩ hc
              refine g_iload (pc := 149) hX 3 rfl dL_cheaper_149 ?_
              refine g_icmp_ge (pc := 151) (tgt := 180) hX (by first | assumption | exact inI_mk (by omega) (by omega)) (by first | assumption | exact inI_mk (by omega) (by omega)) dL_cheaper_151 (by decide) (fun c_151 => ?_) (fun c_151 => ?_)
              · skip
                exact absurd c_151 (by have := hlr.2.2.1; omega)
              · skip
                refine g_aload_n (pc := 154) hX 9 rfl dL_cheaper_154 ?_
                refine g_iload_n (pc := 155) hX 8 rfl dL_cheaper_155 ?_
                refine g_iload (pc := 156) hX 2 rfl dL_cheaper_156 ?_
                refine g_isub (pc := 158) hX dL_cheaper_158 ?_
                refine g_iconst (pc := 159) hX dL_cheaper_159 ?_
                refine g_iadd (pc := 160) hX dL_cheaper_160 ?_
                refine g_iload_n (pc := 161) hX 7 rfl dL_cheaper_161 ?_
                refine g_iload (pc := 162) hX 6 rfl dL_cheaper_162 ?_
                refine g_iload (pc := 164) hX 5 rfl dL_cheaper_164 ?_
                refine g_iload (pc := 166) hX 4 rfl dL_cheaper_166 ?_
                refine g_callD (pc := 168) (As := [vI (((sP D p 0) - lr) + 1), vI (sP D p 1), vI (sP D p 2), vI (sP D p 3), vI (sP D p 4)]) (st2 := []) hX hA146.N hA146.e (qF_quote eF hA146 (m := ((sP D p 0) - lr) + 1) (a := sP D p 1) (b := sP D p 2) (c := sP D p 3) (z := sP D p 4) ⟨by omega, by omega⟩ ⟨by omega, by omega⟩ ⟨by omega, by omega⟩ ⟨by omega, by omega⟩ ⟨by omega, by omega⟩ hc) gL_cheaper_X6_quote (n := 5) (hw := rfl) (hrc := rfl) (hrs := rfl) (hd := by decide +kernel) (hR := ⟨Nat.le_of_ble_eq_true rfl, Nat.le_of_ble_eq_true rfl⟩) (hn := rfl) (hst := rfl) (hsum := Nat.le_of_ble_eq_true rfl) (hdg := dL_cheaper_168) ?_
                rintro _ S168 ⟨rfl, hA168⟩
                refine g_at (pc2 := 171) rfl rfl (st2 := [vI (F (((sP D p 0) - lr) + 1) (sP D p 1) (sP D p 2) (sP D p 3) (sP D p 4))]) rfl (S2 := S168) rfl ?_
                have hq168 := F_b eF hA.ok (m := ((sP D p 0) - lr) + 1) (a := sP D p 1) (b := sP D p 2) (c := sP D p 3) (z := sP D p 4) ⟨by omega, by omega⟩ ⟨by omega, by omega⟩ ⟨by omega, by omega⟩ ⟨by omega, by omega⟩ ⟨by omega, by omega⟩ hc
                refine g_iload (pc := 171) hX 3 rfl dL_cheaper_171 ?_
                refine g_icmp_lt (pc := 173) (tgt := 180) hX (by first | assumption | exact inI_mk (by omega) (by omega)) (by first | assumption | exact inI_mk (by omega) (by omega)) dL_cheaper_173 (by decide) (fun c_173 => ?_) (fun c_173 => ?_)
                · skip
                  exact absurd c_173 (by have := hlr.2.2.2; omega)
                · skip
                  refine g_iconst (pc := 176) hX dL_cheaper_176 ?_
                  refine g_goto (pc := 177) (tgt := 181) hX dL_cheaper_177 (by decide) ?_
                  refine g_sub (lv2 := [(0, .ref (gw_ad w 0)), (1, vI (p)), (2, vI (sP D p 0)), (3, vI (sP D p 1)), (4, vI (sP D p 2)), (5, vI (sP D p 3)), (6, vI (sP D p 4)), (7, vI (F (sP D p 0) (sP D p 1) (sP D p 2) (sP D p 3) (sP D p 4))), (8, vI (lr)), (9, vI (sr)), (10, vI (cr))]) [9, 10, 8, 7, 6, 5, 4, 3, 2, 1, 0] rfl ?_
                  exact j1 (S168) (hA168)
      · skip
        omega
    · skip
      omega
  · skip
    refine g_aload_n (pc := 0) hX 0 rfl dL_cheaper_0 ?_
    refine g_iload_n (pc := 1) hX 1 rfl dL_cheaper_1 ?_
    refine g_iconst (pc := 2) hX dL_cheaper_2 ?_
    refine g_callD (pc := 3) (As := [vI (p), vI (0)]) (st2 := []) hX hA.N hA.e (q_parcel hA (p := p) (x := 0) (by omega) (by omega) (by omega) (by omega)) gL_cheaper_X6_parcel (n := 2) (hw := rfl) (hrc := rfl) (hrs := rfl) (hd := by decide +kernel) (hR := ⟨Nat.le_of_ble_eq_true rfl, Nat.le_of_ble_eq_true rfl⟩) (hn := rfl) (hst := rfl) (hsum := Nat.le_of_ble_eq_true rfl) (hdg := dL_cheaper_3) ?_
    rintro _ S9 ⟨rfl, e9⟩
    rw [e9]
    clear e9 S9
    refine g_at (pc2 := 6) rfl rfl (st2 := [vI (sP D p 0)]) rfl (S2 := S) rfl ?_
    refine g_istore_n (pc := 6) hX (lv2 := [(2, vI (sP D p 0)), (0, .ref (gw_ad w 0)), (1, vI (p))]) rfl (by decide) rfl dL_cheaper_6 ?_
    refine g_aload_n (pc := 7) hX 1 rfl dL_cheaper_7 ?_
    refine g_iload_n (pc := 8) hX 2 rfl dL_cheaper_8 ?_
    refine g_iconst (pc := 9) hX dL_cheaper_9 ?_
    refine g_callD (pc := 10) (As := [vI (p), vI (1)]) (st2 := []) hX hA.N hA.e (q_parcel hA (p := p) (x := 1) (by omega) (by omega) (by omega) (by omega)) gL_cheaper_X6_parcel (n := 2) (hw := rfl) (hrc := rfl) (hrs := rfl) (hd := by decide +kernel) (hR := ⟨Nat.le_of_ble_eq_true rfl, Nat.le_of_ble_eq_true rfl⟩) (hn := rfl) (hst := rfl) (hsum := Nat.le_of_ble_eq_true rfl) (hdg := dL_cheaper_10) ?_
    rintro _ S9 ⟨rfl, e9⟩
    rw [e9]
    clear e9 S9
    refine g_at (pc2 := 13) rfl rfl (st2 := [vI (sP D p 1)]) rfl (S2 := S) rfl ?_
    refine g_istore_n (pc := 13) hX (lv2 := [(3, vI (sP D p 1)), (2, vI (sP D p 0)), (0, .ref (gw_ad w 0)), (1, vI (p))]) rfl (by decide) rfl dL_cheaper_13 ?_
    refine g_aload_n (pc := 14) hX 2 rfl dL_cheaper_14 ?_
    refine g_iload_n (pc := 15) hX 3 rfl dL_cheaper_15 ?_
    refine g_iconst (pc := 16) hX dL_cheaper_16 ?_
    refine g_callD (pc := 17) (As := [vI (p), vI (2)]) (st2 := []) hX hA.N hA.e (q_parcel hA (p := p) (x := 2) (by omega) (by omega) (by omega) (by omega)) gL_cheaper_X6_parcel (n := 2) (hw := rfl) (hrc := rfl) (hrs := rfl) (hd := by decide +kernel) (hR := ⟨Nat.le_of_ble_eq_true rfl, Nat.le_of_ble_eq_true rfl⟩) (hn := rfl) (hst := rfl) (hsum := Nat.le_of_ble_eq_true rfl) (hdg := dL_cheaper_17) ?_
    rintro _ S9 ⟨rfl, e9⟩
    rw [e9]
    clear e9 S9
    refine g_at (pc2 := 20) rfl rfl (st2 := [vI (sP D p 2)]) rfl (S2 := S) rfl ?_
    refine g_istore (pc := 20) hX (lv2 := [(4, vI (sP D p 2)), (3, vI (sP D p 1)), (2, vI (sP D p 0)), (0, .ref (gw_ad w 0)), (1, vI (p))]) (by decide) rfl dL_cheaper_20 ?_
    refine g_aload_n (pc := 22) hX 3 rfl dL_cheaper_22 ?_
    refine g_iload_n (pc := 23) hX 4 rfl dL_cheaper_23 ?_
    refine g_iconst (pc := 24) hX dL_cheaper_24 ?_
    refine g_callD (pc := 25) (As := [vI (p), vI (3)]) (st2 := []) hX hA.N hA.e (q_parcel hA (p := p) (x := 3) (by omega) (by omega) (by omega) (by omega)) gL_cheaper_X6_parcel (n := 2) (hw := rfl) (hrc := rfl) (hrs := rfl) (hd := by decide +kernel) (hR := ⟨Nat.le_of_ble_eq_true rfl, Nat.le_of_ble_eq_true rfl⟩) (hn := rfl) (hst := rfl) (hsum := Nat.le_of_ble_eq_true rfl) (hdg := dL_cheaper_25) ?_
    rintro _ S9 ⟨rfl, e9⟩
    rw [e9]
    clear e9 S9
    refine g_at (pc2 := 28) rfl rfl (st2 := [vI (sP D p 3)]) rfl (S2 := S) rfl ?_
    refine g_istore (pc := 28) hX (lv2 := [(5, vI (sP D p 3)), (4, vI (sP D p 2)), (3, vI (sP D p 1)), (2, vI (sP D p 0)), (0, .ref (gw_ad w 0)), (1, vI (p))]) (by decide) rfl dL_cheaper_28 ?_
    refine g_aload_n (pc := 30) hX 4 rfl dL_cheaper_30 ?_
    refine g_iload_n (pc := 31) hX 5 rfl dL_cheaper_31 ?_
    refine g_iconst (pc := 32) hX dL_cheaper_32 ?_
    refine g_callD (pc := 33) (As := [vI (p), vI (4)]) (st2 := []) hX hA.N hA.e (q_parcel hA (p := p) (x := 4) (by omega) (by omega) (by omega) (by omega)) gL_cheaper_X6_parcel (n := 2) (hw := rfl) (hrc := rfl) (hrs := rfl) (hd := by decide +kernel) (hR := ⟨Nat.le_of_ble_eq_true rfl, Nat.le_of_ble_eq_true rfl⟩) (hn := rfl) (hst := rfl) (hsum := Nat.le_of_ble_eq_true rfl) (hdg := dL_cheaper_33) ?_
    rintro _ S9 ⟨rfl, e9⟩
    rw [e9]
    clear e9 S9
    refine g_at (pc2 := 36) rfl rfl (st2 := [vI (sP D p 4)]) rfl (S2 := S) rfl ?_
    refine g_istore (pc := 36) hX (lv2 := [(6, vI (sP D p 4)), (5, vI (sP D p 3)), (4, vI (sP D p 2)), (3, vI (sP D p 1)), (2, vI (sP D p 0)), (0, .ref (gw_ad w 0)), (1, vI (p))]) (by decide) rfl dL_cheaper_36 ?_
    refine g_iload_n (pc := 38) hX 4 rfl dL_cheaper_38 ?_
    refine g_ldc (pc := 39) hX (z := 100000) (List.mem_of_getElem? (i := 1) rfl) (by decide +kernel) dL_cheaper_39 ?_
    refine g_icmp_le (pc := 41) (tgt := 46) hX (by first | assumption | exact inI_mk (by omega) (by omega)) (by first | assumption | exact inI_mk (by omega) (by omega)) dL_cheaper_41 (by decide) (fun c_41 => ?_) (fun c_41 => ?_)
    · skip
      refine g_aload_n (pc := 46) hX 5 rfl dL_cheaper_46 ?_
      refine g_iload_n (pc := 47) hX 4 rfl dL_cheaper_47 ?_
      refine g_iload_n (pc := 48) hX 3 rfl dL_cheaper_48 ?_
      refine g_iload (pc := 49) hX 2 rfl dL_cheaper_49 ?_
      refine g_iload (pc := 51) hX 1 rfl dL_cheaper_51 ?_
      refine g_iload (pc := 53) hX 0 rfl dL_cheaper_53 ?_
      refine g_callD (pc := 55) (As := [vI (sP D p 0), vI (sP D p 1), vI (sP D p 2), vI (sP D p 3), vI (sP D p 4)]) (st2 := []) hX hA.N hA.e (s_quote hA (m := sP D p 0) (a := sP D p 1) (b := sP D p 2) (c := sP D p 3) (z := sP D p 4) ⟨by omega, by omega⟩ ⟨by omega, by omega⟩ ⟨by omega, by omega⟩ ⟨by omega, by omega⟩ ⟨by omega, by omega⟩ hc) gL_cheaper_X6_quote (n := 5) (hw := rfl) (hrc := rfl) (hrs := rfl) (hd := by decide +kernel) (hR := ⟨Nat.le_of_ble_eq_true rfl, Nat.le_of_ble_eq_true rfl⟩) (hn := rfl) (hst := rfl) (hsum := Nat.le_of_ble_eq_true rfl) (hdg := dL_cheaper_55) ?_
      rintro _ S9 ⟨rfl, e9⟩
      rw [e9]
      clear e9 S9
      refine g_at (pc2 := 58) rfl rfl (st2 := [vI (-1000002)]) rfl (S2 := S) rfl ?_
      refine g_istore (pc := 58) hX (lv2 := [(7, vI (-1000002)), (6, vI (sP D p 4)), (5, vI (sP D p 3)), (4, vI (sP D p 2)), (3, vI (sP D p 1)), (2, vI (sP D p 0)), (0, .ref (gw_ad w 0)), (1, vI (p))]) (by decide) rfl dL_cheaper_58 ?_
      refine g_aload_n (pc := 60) hX 6 rfl dL_cheaper_60 ?_
      refine g_iload_n (pc := 61) hX 7 rfl dL_cheaper_61 ?_
      refine g_callD (pc := 62) (As := [vI (p)]) (st2 := []) hX hA.N hA.e (s_lighter hA (p := p) p0 p1 hc) gL_cheaper_X6_lighter (n := 1) (hw := rfl) (hrc := rfl) (hrs := rfl) (hd := by decide +kernel) (hR := ⟨Nat.le_of_ble_eq_true rfl, Nat.le_of_ble_eq_true rfl⟩) (hn := rfl) (hst := rfl) (hsum := Nat.le_of_ble_eq_true rfl) (hdg := dL_cheaper_62) ?_
      rintro _ S9 ⟨rfl, e9⟩
      rw [e9]
      clear e9 S9
      refine g_at (pc2 := 65) rfl rfl (st2 := [vI (-1000002)]) rfl (S2 := S) rfl ?_
      refine g_istore (pc := 65) hX (lv2 := [(8, vI (-1000002)), (7, vI (-1000002)), (6, vI (sP D p 4)), (5, vI (sP D p 3)), (4, vI (sP D p 2)), (3, vI (sP D p 1)), (2, vI (sP D p 0)), (0, .ref (gw_ad w 0)), (1, vI (p))]) (by decide) rfl dL_cheaper_65 ?_
      refine g_aload_n (pc := 67) hX 7 rfl dL_cheaper_67 ?_
      refine g_iload_n (pc := 68) hX 8 rfl dL_cheaper_68 ?_
      refine g_iconst (pc := 69) hX dL_cheaper_69 ?_
      refine g_callD (pc := 70) (As := [vI (p), vI (2)]) (st2 := []) hX hA.N hA.e (s_shorter hA (p := p) p0 p1 hc) gL_cheaper_X6_shorter (n := 2) (hw := rfl) (hrc := rfl) (hrs := rfl) (hd := by decide +kernel) (hR := ⟨Nat.le_of_ble_eq_true rfl, Nat.le_of_ble_eq_true rfl⟩) (hn := rfl) (hst := rfl) (hsum := Nat.le_of_ble_eq_true rfl) (hdg := dL_cheaper_70) ?_
      rintro _ S9 ⟨rfl, e9⟩
      rw [e9]
      clear e9 S9
      refine g_at (pc2 := 73) rfl rfl (st2 := [vI (-1000002)]) rfl (S2 := S) rfl ?_
      refine g_istore (pc := 73) hX (lv2 := [(9, vI (-1000002)), (8, vI (-1000002)), (7, vI (-1000002)), (6, vI (sP D p 4)), (5, vI (sP D p 3)), (4, vI (sP D p 2)), (3, vI (sP D p 1)), (2, vI (sP D p 0)), (0, .ref (gw_ad w 0)), (1, vI (p))]) (by decide) rfl dL_cheaper_73 ?_
      refine g_aload_n (pc := 75) hX 8 rfl dL_cheaper_75 ?_
      refine g_iload_n (pc := 76) hX 9 rfl dL_cheaper_76 ?_
      refine g_callD (pc := 77) (As := [vI (p)]) (st2 := []) hX hA.N hA.e (qF_cheapest eF hA (p := p) p0 p1) gL_cheaper_X6_cheapest (n := 1) (hw := rfl) (hrc := rfl) (hrs := rfl) (hd := by decide +kernel) (hR := ⟨Nat.le_of_ble_eq_true rfl, Nat.le_of_ble_eq_true rfl⟩) (hn := rfl) (hst := rfl) (hsum := Nat.le_of_ble_eq_true rfl) (hdg := dL_cheaper_77) ?_
      rintro _ S77 ⟨cr, rfl, hch, hA77⟩
      refine g_at (pc2 := 80) rfl rfl (st2 := [vI (cr)]) rfl (S2 := S77) rfl ?_
      have hc1 : inI cr := by rcases hch with ⟨q, -⟩ | ⟨q1, q2, -⟩ <;> exact ⟨by omega, by omega⟩
      refine g_istore (pc := 80) hX (lv2 := [(10, vI (cr)), (9, vI (-1000002)), (8, vI (-1000002)), (7, vI (-1000002)), (6, vI (sP D p 4)), (5, vI (sP D p 3)), (4, vI (sP D p 2)), (3, vI (sP D p 1)), (2, vI (sP D p 0)), (0, .ref (gw_ad w 0)), (1, vI (p))]) (by decide) rfl dL_cheaper_80 ?_
      refine g_iload (pc := 82) hX 3 rfl dL_cheaper_82 ?_
      refine g_ldc (pc := 84) hX (z := -1000002) (List.mem_of_getElem? (i := 2) rfl) (by decide +kernel) dL_cheaper_84 ?_
      refine g_icmp_ne (pc := 86) (tgt := 116) hX (by first | assumption | exact inI_mk (by omega) (by omega)) (by first | assumption | exact inI_mk (by omega) (by omega)) dL_cheaper_86 (by decide) (fun c_86 => ?_) (fun c_86 => ?_)
      · skip
        exact absurd c_86 (by omega)
      · skip
        refine g_iload (pc := 89) hX 2 rfl dL_cheaper_89 ?_
        refine g_ldc (pc := 91) hX (z := -1000002) (List.mem_of_getElem? (i := 2) rfl) (by decide +kernel) dL_cheaper_91 ?_
        refine g_icmp_ne (pc := 93) (tgt := 114) hX (by first | assumption | exact inI_mk (by omega) (by omega)) (by first | assumption | exact inI_mk (by omega) (by omega)) dL_cheaper_93 (by decide) (fun c_93 => ?_) (fun c_93 => ?_)
        · skip
          exact absurd c_93 (by omega)
        · skip
          refine g_iload (pc := 96) hX 1 rfl dL_cheaper_96 ?_
          refine g_ldc (pc := 98) hX (z := -1000002) (List.mem_of_getElem? (i := 2) rfl) (by decide +kernel) dL_cheaper_98 ?_
          refine g_icmp_ne (pc := 100) (tgt := 114) hX (by first | assumption | exact inI_mk (by omega) (by omega)) (by first | assumption | exact inI_mk (by omega) (by omega)) dL_cheaper_100 (by decide) (fun c_100 => ?_) (fun c_100 => ?_)
          · skip
            exact absurd c_100 (by omega)
          · skip
            refine g_iload (pc := 103) hX 0 rfl dL_cheaper_103 ?_
            refine g_iload (pc := 105) hX 4 rfl dL_cheaper_105 ?_
            refine g_icmp_eq (pc := 107) (tgt := 114) hX (by first | assumption | exact inI_mk (by omega) (by omega)) (by first | assumption | exact inI_mk (by omega) (by omega)) dL_cheaper_107 (by decide) (fun c_107 => ?_) (fun c_107 => ?_)
            · skip
              rcases hch with ⟨q, -⟩ | ⟨-, -, q, -⟩
              · omega
              · rw [c_107] at q; exact absurd q hc
            · skip
              refine g_iconst (pc := 110) hX dL_cheaper_110 ?_
              refine g_goto (pc := 111) (tgt := 115) hX dL_cheaper_111 (by decide) ?_
              refine g_at rfl rfl (st2 := [vI (bz true)]) rfl rfl ?_
              refine g_zret (pc := 115) hX hR dL_cheaper_115 ?_
              exact ⟨rfl, hA77⟩
    · skip
      omega

