/-! ===== p35: the cases of the law's loop ===== -/
set_option maxHeartbeats 4000000 in
set_option maxRecDepth 100000 in
theorem law_band {w : gW} {X : gX} {b L : Nat} {f : Nat → Int} {S : Nat → va_E} {D : SD} {k q a how : Int} (hX : gOK w room_1 X cL_law 21 RL wsL_law) (hSc : scrT w X b L f) (hL : L ≤ 260) (hf : ∀ j, inI (f j)) (hA : A0 w D S) (hk : 0 ≤ k ∧ k < 30) (hi : snP D ≤ k ∧ sG D 1 ≤ 3 * k)
    (hend : ∀ (D2 : SD) (S2 : Nat → va_E) (P N Q : Int), A0 w D2 S2 → P = snP D2 → N = snN D2 → Q = snR D2 → (snP D2 ≤ k + 1 ∧ sG D2 1 ≤ 3 * k + 3) → G w room_1 X 21 1488 [(8, vI 1), (0, .ref b), (1, .ref (gw_ad w 0)), (2, vI P), (3, vI N), (4, vI Q), (5, vI k)] [] S2) : G w room_1 X 21 184 [(0, .ref b), (1, .ref (gw_ad w 0)), (2, vI (snP D)), (3, vI (snN D)), (4, vI (snR D)), (5, vI (k)), (6, vI (q)), (7, vI (a)), (8, vI (1)), (9, vI (how)), (10, vL (fpZ D))] [] S := by
  have hb := hA.b
  have j201 : ∀ (z : Int), (0 ≤ z ∧ z ≤ 3) → G w room_1 X 21 201 [(0, .ref b), (1, .ref (gw_ad w 0)), (2, vI (snP D)), (3, vI (snN D)), (4, vI (snR D)), (5, vI (k)), (7, vI (a))] [vI (z)] S := by
    intro z hz
    refine g_istore (pc := 201) hX (lv2 := [(12, vI (z)), (0, .ref b), (1, .ref (gw_ad w 0)), (2, vI (snP D)), (3, vI (snN D)), (4, vI (snR D)), (5, vI (k)), (7, vI (a))]) (by decide) rfl dL_law_201 ?_
    refine g_aload_n (pc := 203) hX 2 rfl dL_law_203 ?_
    refine g_iload (pc := 204) hX 0 rfl dL_law_204 ?_
    refine g_iconst (pc := 206) hX dL_law_206 ?_
    refine g_iload (pc := 207) hX 7 rfl dL_law_207 ?_
    refine g_iconst (pc := 209) hX dL_law_209 ?_
    refine g_ishr (pc := 210) hX dL_law_210 ?_
    refine g_sipush (pc := 211) hX (by decide) dL_law_211 ?_
    refine g_callT1 (pc := 214) (As := [vI (shrZ a 2), vI (20000)]) (st2 := [vI (1), vI (z), .ref (gw_ad w 0)]) hX (c_L_up (x := shrZ a 2) (m := 20000) (by omega) (by omega)) gL_law_L_up (n := 2) (hw := rfl) (hrc := rfl) (hrs := rfl) (hd := by decide +kernel) (hR := ⟨Nat.le_of_ble_eq_true rfl, Nat.le_of_ble_eq_true rfl⟩) (hn := rfl) (hst := rfl) (hsum := Nat.le_of_ble_eq_true rfl) (hdg := dL_law_214) ?_
    rintro _ S9 ⟨rfl, e9⟩
    rw [e9]
    clear e9 S9
    refine g_at (pc2 := 217) rfl rfl (st2 := [vI (upZ (shrZ a 2) 20000), vI (1), vI (z), .ref (gw_ad w 0)]) rfl (S2 := S) rfl ?_
    obtain ⟨u1, eu1⟩ : ∃ z : Int, z = upZ (shrZ a 2) 20000 := ⟨_, rfl⟩
    refine g_at rfl rfl (st2 := [vI (u1), vI (1), vI (z), .ref (gw_ad w 0)]) (by rw [eu1]) rfl ?_
    have hu1 : 0 ≤ u1 ∧ u1 < 20000 := by rw [eu1]; exact upZ_b _ (by decide)
    refine g_iadd (pc := 217) hX dL_law_217 ?_
    refine g_iload (pc := 218) hX 7 rfl dL_law_218 ?_
    refine g_bipush (pc := 220) hX (by decide) dL_law_220 ?_
    refine g_ishr (pc := 222) hX dL_law_222 ?_
    refine g_sipush (pc := 223) hX (by decide) dL_law_223 ?_
    refine g_callT1 (pc := 226) (As := [vI (shrZ a 9), vI (9000)]) (st2 := [vI (1 + u1), vI (z), .ref (gw_ad w 0)]) hX (c_L_up (x := shrZ a 9) (m := 9000) (by omega) (by omega)) gL_law_L_up (n := 2) (hw := rfl) (hrc := rfl) (hrs := rfl) (hd := by decide +kernel) (hR := ⟨Nat.le_of_ble_eq_true rfl, Nat.le_of_ble_eq_true rfl⟩) (hn := rfl) (hst := rfl) (hsum := Nat.le_of_ble_eq_true rfl) (hdg := dL_law_226) ?_
    rintro _ S9 ⟨rfl, e9⟩
    rw [e9]
    clear e9 S9
    refine g_at (pc2 := 229) rfl rfl (st2 := [vI (upZ (shrZ a 9) 9000), vI (1 + u1), vI (z), .ref (gw_ad w 0)]) rfl (S2 := S) rfl ?_
    obtain ⟨u2, eu2⟩ : ∃ z : Int, z = upZ (shrZ a 9) 9000 := ⟨_, rfl⟩
    refine g_at rfl rfl (st2 := [vI (u2), vI (1 + u1), vI (z), .ref (gw_ad w 0)]) (by rw [eu2]) rfl ?_
    have hu2 : 0 ≤ u2 ∧ u2 < 9000 := by rw [eu2]; exact upZ_b _ (by decide)
    refine g_callD (pc := 229) (As := [vI (z), vI (1 + u1), vI (u2)]) (st2 := []) hX hA.N hA.e (q_band hA (z := z) (m := 1 + u1) (p := u2) ⟨by omega, by omega⟩ ⟨by omega, by omega⟩ ⟨by omega, by omega⟩) gL_law_X6_band (n := 3) (hw := rfl) (hrc := rfl) (hrs := rfl) (hd := by decide +kernel) (hR := ⟨Nat.le_of_ble_eq_true rfl, Nat.le_of_ble_eq_true rfl⟩) (hn := rfl) (hst := rfl) (hsum := Nat.le_of_ble_eq_true rfl) (hdg := dL_law_229) ?_
    rintro _ S229 ⟨r, rfl, hr, D2, hA229, eG, eP, eN, eR⟩
    refine g_at (pc2 := 232) rfl rfl (st2 := [vI (r)]) rfl (S2 := S229) rfl ?_
    have eG1 : sG D2 1 = sG D 1 := by rw [eG]
    refine g_istore (pc := 232) hX (lv2 := [(13, vI (r)), (12, vI (z)), (0, .ref b), (1, .ref (gw_ad w 0)), (2, vI (snP D)), (3, vI (snN D)), (4, vI (snR D)), (5, vI (k)), (7, vI (a))]) (by decide) rfl dL_law_232 ?_
    refine g_iload (pc := 234) hX 0 rfl dL_law_234 ?_
    refine g_if_lt (pc := 236) (tgt := 246) hX (by first | assumption | exact inI_mk (by omega) (by omega)) dL_law_236 (by decide) (fun c_236 => ?_) (fun c_236 => ?_)
    · skip
      refine g_iload (pc := 246) hX 0 rfl dL_law_246 ?_
      refine g_ldc (pc := 248) hX (z := -1000003) (List.mem_of_getElem? (i := 5) rfl) (by decide +kernel) dL_law_248 ?_
      refine g_icmp_ne (pc := 250) (tgt := 257) hX (by first | assumption | exact inI_mk (by omega) (by omega)) (by first | assumption | exact inI_mk (by omega) (by omega)) dL_law_250 (by decide) (fun c_250 => ?_) (fun c_250 => ?_)
      · skip
        omega
      · skip
        refine g_iconst (pc := 253) hX dL_law_253 ?_
        refine g_goto (pc := 254) (tgt := 258) hX dL_law_254 (by decide) ?_
        refine g_istore (pc := 258) hX (lv2 := [(8, vI (1)), (13, vI (r)), (12, vI (z)), (0, .ref b), (1, .ref (gw_ad w 0)), (2, vI (snP D)), (3, vI (snN D)), (4, vI (snR D)), (5, vI (k)), (7, vI (a))]) (by decide) rfl dL_law_258 ?_
        refine g_goto (pc := 260) (tgt := 1488) hX dL_law_260 (by decide) ?_
        refine g_sub (lv2 := [(8, vI (1)), (0, .ref b), (1, .ref (gw_ad w 0)), (2, vI (snP D)), (3, vI (snN D)), (4, vI (snR D)), (5, vI (k))]) [0, 3, 4, 5, 6, 7, 8] rfl ?_
        exact hend D2 S229 _ _ _ hA229 (by omega) (by omega) (by omega) ⟨by omega, by omega⟩
    · skip
      refine g_iload (pc := 239) hX 0 rfl dL_law_239 ?_
      refine g_bipush (pc := 241) hX (by decide) dL_law_241 ?_
      refine g_icmp_lt (pc := 243) (tgt := 253) hX (by first | assumption | exact inI_mk (by omega) (by omega)) (by first | assumption | exact inI_mk (by omega) (by omega)) dL_law_243 (by decide) (fun c_243 => ?_) (fun c_243 => ?_)
      · skip
        refine g_iconst (pc := 253) hX dL_law_253 ?_
        refine g_goto (pc := 254) (tgt := 258) hX dL_law_254 (by decide) ?_
        refine g_istore (pc := 258) hX (lv2 := [(8, vI (1)), (13, vI (r)), (12, vI (z)), (0, .ref b), (1, .ref (gw_ad w 0)), (2, vI (snP D)), (3, vI (snN D)), (4, vI (snR D)), (5, vI (k)), (7, vI (a))]) (by decide) rfl dL_law_258 ?_
        refine g_goto (pc := 260) (tgt := 1488) hX dL_law_260 (by decide) ?_
        refine g_sub (lv2 := [(8, vI (1)), (0, .ref b), (1, .ref (gw_ad w 0)), (2, vI (snP D)), (3, vI (snN D)), (4, vI (snR D)), (5, vI (k))]) [0, 3, 4, 5, 6, 7, 8] rfl ?_
        exact hend D2 S229 _ _ _ hA229 (by omega) (by omega) (by omega) ⟨by omega, by omega⟩
      · skip
        omega
  refine g_iload (pc := 184) hX 5 rfl dL_law_184 ?_
  refine g_iconst (pc := 186) hX dL_law_186 ?_
  refine g_icmp_ge (pc := 187) (tgt := 195) hX (by first | assumption | exact inI_mk (by omega) (by omega)) (by first | assumption | exact inI_mk (by omega) (by omega)) dL_law_187 (by decide) (fun c_187 => ?_) (fun c_187 => ?_)
  · skip
    refine g_iload (pc := 195) hX 7 rfl dL_law_195 ?_
    refine g_iconst (pc := 197) hX dL_law_197 ?_
    refine g_callT1 (pc := 198) (As := [vI (a), vI (4)]) (st2 := []) hX (c_L_up (x := a) (m := 4) (by omega) (by omega)) gL_law_L_up (n := 2) (hw := rfl) (hrc := rfl) (hrs := rfl) (hd := by decide +kernel) (hR := ⟨Nat.le_of_ble_eq_true rfl, Nat.le_of_ble_eq_true rfl⟩) (hn := rfl) (hst := rfl) (hsum := Nat.le_of_ble_eq_true rfl) (hdg := dL_law_198) ?_
    rintro _ S9 ⟨rfl, e9⟩
    rw [e9]
    clear e9 S9
    refine g_at (pc2 := 201) rfl rfl (st2 := [vI (upZ a 4)]) rfl (S2 := S) rfl ?_
    obtain ⟨z0, ez0⟩ : ∃ z : Int, z = upZ a 4 := ⟨_, rfl⟩
    refine g_at rfl rfl (st2 := [vI (z0)]) (by rw [ez0]) rfl ?_
    have hz0 : 0 ≤ z0 ∧ z0 < 4 := by rw [ez0]; exact upZ_b _ (by decide)
    refine g_sub (lv2 := [(0, .ref b), (1, .ref (gw_ad w 0)), (2, vI (snP D)), (3, vI (snN D)), (4, vI (snR D)), (5, vI (k)), (7, vI (a))]) [0, 1, 2, 3, 4, 5, 7] rfl ?_
    exact j201 (z0) (by omega)
  · skip
    refine g_iload (pc := 190) hX 5 rfl dL_law_190 ?_
    refine g_goto (pc := 192) (tgt := 201) hX dL_law_192 (by decide) ?_
    refine g_sub (lv2 := [(0, .ref b), (1, .ref (gw_ad w 0)), (2, vI (snP D)), (3, vI (snN D)), (4, vI (snR D)), (5, vI (k)), (7, vI (a))]) [0, 1, 2, 3, 4, 5, 7] rfl ?_
    exact j201 (k) (by omega)

set_option maxHeartbeats 4000000 in
set_option maxRecDepth 100000 in
theorem law_load {w : gW} {X : gX} {b L : Nat} {f : Nat → Int} {S : Nat → va_E} {D : SD} {k q a how : Int} (hX : gOK w room_1 X cL_law 21 RL wsL_law) (hSc : scrT w X b L f) (hL : L ≤ 260) (hf : ∀ j, inI (f j)) (hA : A0 w D S) (hk : 0 ≤ k ∧ k < 30) (hi : snP D ≤ k ∧ sG D 1 ≤ 3 * k)
    (hend : ∀ (D2 : SD) (S2 : Nat → va_E) (P N Q : Int), A0 w D2 S2 → P = snP D2 → N = snN D2 → Q = snR D2 → (snP D2 ≤ k + 1 ∧ sG D2 1 ≤ 3 * k + 3) → G w room_1 X 21 1488 [(8, vI 1), (0, .ref b), (1, .ref (gw_ad w 0)), (2, vI P), (3, vI N), (4, vI Q), (5, vI k)] [] S2) : G w room_1 X 21 269 [(0, .ref b), (1, .ref (gw_ad w 0)), (2, vI (snP D)), (3, vI (snN D)), (4, vI (snR D)), (5, vI (k)), (6, vI (q)), (7, vI (a)), (8, vI (1)), (9, vI (how)), (10, vL (fpZ D))] [] S := by
  have hb := hA.b
  refine g_iload (pc := 269) hX 7 rfl dL_law_269 ?_
  refine g_sipush (pc := 271) hX (by decide) dL_law_271 ?_
  refine g_callT1 (pc := 274) (As := [vI (a), vI (30000)]) (st2 := []) hX (c_L_up (x := a) (m := 30000) (by omega) (by omega)) gL_law_L_up (n := 2) (hw := rfl) (hrc := rfl) (hrs := rfl) (hd := by decide +kernel) (hR := ⟨Nat.le_of_ble_eq_true rfl, Nat.le_of_ble_eq_true rfl⟩) (hn := rfl) (hst := rfl) (hsum := Nat.le_of_ble_eq_true rfl) (hdg := dL_law_274) ?_
  rintro _ S9 ⟨rfl, e9⟩
  rw [e9]
  clear e9 S9
  refine g_at (pc2 := 277) rfl rfl (st2 := [vI (upZ a 30000)]) rfl (S2 := S) rfl ?_
  obtain ⟨ld, eld⟩ : ∃ z : Int, z = upZ a 30000 := ⟨_, rfl⟩
  refine g_at rfl rfl (st2 := [vI (ld)]) (by rw [eld]) rfl ?_
  have hld : 0 ≤ ld ∧ ld < 30000 := by rw [eld]; exact upZ_b _ (by decide)
  refine g_istore (pc := 277) hX (lv2 := [(12, vI (ld)), (0, .ref b), (1, .ref (gw_ad w 0)), (2, vI (snP D)), (3, vI (snN D)), (4, vI (snR D)), (5, vI (k)), (6, vI (q)), (7, vI (a)), (8, vI (1)), (9, vI (how)), (10, vL (fpZ D))]) (by decide) rfl dL_law_277 ?_
  refine g_aload_n (pc := 279) hX 2 rfl dL_law_279 ?_
  refine g_iload (pc := 280) hX 0 rfl dL_law_280 ?_
  refine g_callD (pc := 282) (As := [vI (ld)]) (st2 := []) hX hA.N hA.e (q_load hA (x := ld) (by omega) (by omega)) gL_law_X6_load (n := 1) (hw := rfl) (hrc := rfl) (hrs := rfl) (hd := by decide +kernel) (hR := ⟨Nat.le_of_ble_eq_true rfl, Nat.le_of_ble_eq_true rfl⟩) (hn := rfl) (hst := rfl) (hsum := Nat.le_of_ble_eq_true rfl) (hdg := dL_law_282) ?_
  rintro _ S282 ⟨rfl, D2, hA2, eF, eG, eC, eP, eN, eR⟩
  refine g_at (pc2 := 285) rfl rfl (st2 := [vI (sG D 0)]) rfl (S2 := S282) rfl ?_
  have t2 : sG D2 1 = sG D 1 := by rw [eG]; rfl
  refine g_if_ge (pc := 285) (tgt := 292) hX (by first | assumption | exact inI_mk (by omega) (by omega)) dL_law_285 (by decide) (fun c_285 => ?_) (fun c_285 => ?_)
  · skip
    refine g_aload_n (pc := 292) hX 2 rfl dL_law_292 ?_
    refine g_iconst (pc := 293) hX dL_law_293 ?_
    refine g_callD (pc := 294) (As := [vI (3)]) (st2 := []) hX hA2.N hA2.e (q_tick hA2 (by omega)) gL_law_X6_tick (n := 1) (hw := rfl) (hrc := rfl) (hrs := rfl) (hd := by decide +kernel) (hR := ⟨Nat.le_of_ble_eq_true rfl, Nat.le_of_ble_eq_true rfl⟩) (hn := rfl) (hst := rfl) (hsum := Nat.le_of_ble_eq_true rfl) (hdg := dL_law_294) ?_
    rintro _ S294 ⟨D3, rfl, hA3, fF, fG, fC, fP, fN, fR⟩
    refine g_at (pc2 := 297) rfl rfl (st2 := [vI (scRaw (sF D3) (sG D3))]) rfl (S2 := S294) rfl ?_
    have hb3 := hA3.b
    have eF3 : sF D3 = sF D := fF.trans eF
    have eG3 : sG D3 = tkN (sF D) (scLoad (sG D) ld) 3 := by rw [fG, eF, eG]
    obtain ⟨k0, k1, k7⟩ := tick3 (sF D) (sG D) ld
    rw [← eG3] at k0 k1 k7
    rw [← eF3] at k7
    obtain ⟨z, ez⟩ : ∃ z : Int, z = upZ (shrZ a 5) 4 := ⟨_, rfl⟩
    have hz : 0 ≤ z ∧ z < 4 := by rw [ez]; exact upZ_b _ (by decide)
    have hcn := hA3.cnt hz.1 (by omega)
    refine g_istore (pc := 297) hX (lv2 := [(13, vI (scRaw (sF D3) (sG D3))), (12, vI (ld)), (0, .ref b), (1, .ref (gw_ad w 0)), (2, vI (snP D)), (3, vI (snN D)), (4, vI (snR D)), (5, vI (k)), (6, vI (q)), (7, vI (a)), (8, vI (1)), (9, vI (how)), (10, vL (fpZ D))]) (by decide) rfl dL_law_297 ?_
    have j375 : G w room_1 X 21 375 [(0, .ref b), (1, .ref (gw_ad w 0)), (2, vI (snP D)), (3, vI (snN D)), (4, vI (snR D)), (5, vI (k)), (7, vI (a)), (8, vI (1))] [] S294 := by
      by_cases hmay : scSteady (sF D3) (sG D3) = true ∧ scOver (sF D3) (sG D3) = false ∧ 1 ≤ scGross (sF D3) (sG D3) - sG D3 3 ∧ 0 < sC D3 z
      · skip
        refine g_aload_n (pc := 375) hX 1 rfl dL_law_375 ?_
        refine g_iconst (pc := 376) hX dL_law_376 ?_
        refine g_callD (pc := 377) (As := [vI (3)]) (st2 := []) hX hA3.N hA3.e (q_scale3 hA3) gL_law_X6_scale (n := 1) (hw := rfl) (hrc := rfl) (hrs := rfl) (hd := by decide +kernel) (hR := ⟨Nat.le_of_ble_eq_true rfl, Nat.le_of_ble_eq_true rfl⟩) (hn := rfl) (hst := rfl) (hsum := Nat.le_of_ble_eq_true rfl) (hdg := dL_law_377) ?_
        rintro _ S9 ⟨rfl, e9⟩
        rw [e9]
        clear e9 S9
        refine g_at (pc2 := 380) rfl rfl (st2 := [vI (scGross (sF D3) (sG D3) - sG D3 3)]) rfl (S2 := S294) rfl ?_
        refine g_istore (pc := 380) hX (lv2 := [(14, vI (scGross (sF D3) (sG D3) - sG D3 3)), (0, .ref b), (1, .ref (gw_ad w 0)), (2, vI (snP D)), (3, vI (snN D)), (4, vI (snR D)), (5, vI (k)), (7, vI (a)), (8, vI (1))]) (by decide) rfl dL_law_380 ?_
        refine g_aload_n (pc := 382) hX 2 rfl dL_law_382 ?_
        refine g_bipush (pc := 383) hX (by decide) dL_law_383 ?_
        refine g_callD (pc := 385) (As := [vI (7)]) (st2 := []) hX hA3.N hA3.e (q_scale7 hA3) gL_law_X6_scale (n := 1) (hw := rfl) (hrc := rfl) (hrs := rfl) (hd := by decide +kernel) (hR := ⟨Nat.le_of_ble_eq_true rfl, Nat.le_of_ble_eq_true rfl⟩) (hn := rfl) (hst := rfl) (hsum := Nat.le_of_ble_eq_true rfl) (hdg := dL_law_385) ?_
        rintro _ S9 ⟨rfl, e9⟩
        rw [e9]
        clear e9 S9
        refine g_at (pc2 := 388) rfl rfl (st2 := [vI (bz (scSteady (sF D3) (sG D3)))]) rfl (S2 := S294) rfl ?_
        refine g_iconst (pc := 388) hX dL_law_388 ?_
        refine g_bcmp_ne (pc := 389) (tgt := 429) (a := scSteady (sF D3) (sG D3)) (b := true) hX dL_law_389 (by decide) (fun c_389 => ?_) (fun c_389 => ?_)
        · skip
          rw [hmay.1] at c_389; exact absurd c_389 (by decide)
        · skip
          refine g_aload_n (pc := 392) hX 2 rfl dL_law_392 ?_
          refine g_bipush (pc := 393) hX (by decide) dL_law_393 ?_
          refine g_callD (pc := 395) (As := [vI (8)]) (st2 := []) hX hA3.N hA3.e (q_scale8 hA3) gL_law_X6_scale (n := 1) (hw := rfl) (hrc := rfl) (hrs := rfl) (hd := by decide +kernel) (hR := ⟨Nat.le_of_ble_eq_true rfl, Nat.le_of_ble_eq_true rfl⟩) (hn := rfl) (hst := rfl) (hsum := Nat.le_of_ble_eq_true rfl) (hdg := dL_law_395) ?_
          rintro _ S9 ⟨rfl, e9⟩
          rw [e9]
          clear e9 S9
          refine g_at (pc2 := 398) rfl rfl (st2 := [vI (bz (scOver (sF D3) (sG D3)))]) rfl (S2 := S294) rfl ?_
          refine g_bif_ne (pc := 398) (tgt := 429) hX dL_law_398 (by decide) (fun c_398 => ?_) (fun c_398 => ?_)
          · skip
            rw [hmay.2.1] at c_398; exact absurd c_398 (by decide)
          · skip
            refine g_iload (pc := 401) hX 0 rfl dL_law_401 ?_
            refine g_if_le (pc := 403) (tgt := 429) hX (by first | assumption | exact inI_mk (by omega) (by omega)) dL_law_403 (by decide) (fun c_403 => ?_) (fun c_403 => ?_)
            · skip
              omega
            · skip
              refine g_aload_n (pc := 406) hX 2 rfl dL_law_406 ?_
              refine g_iload (pc := 407) hX 7 rfl dL_law_407 ?_
              refine g_iconst (pc := 409) hX dL_law_409 ?_
              refine g_ishr (pc := 410) hX dL_law_410 ?_
              refine g_iconst (pc := 411) hX dL_law_411 ?_
              refine g_callT1 (pc := 412) (As := [vI (shrZ a 5), vI (4)]) (st2 := [.ref (gw_ad w 0)]) hX (c_L_up (x := shrZ a 5) (m := 4) (by omega) (by omega)) gL_law_L_up (n := 2) (hw := rfl) (hrc := rfl) (hrs := rfl) (hd := by decide +kernel) (hR := ⟨Nat.le_of_ble_eq_true rfl, Nat.le_of_ble_eq_true rfl⟩) (hn := rfl) (hst := rfl) (hsum := Nat.le_of_ble_eq_true rfl) (hdg := dL_law_412) ?_
              rintro _ S9 ⟨rfl, e9⟩
              rw [e9]
              clear e9 S9
              refine g_at (pc2 := 415) rfl rfl (st2 := [vI (upZ (shrZ a 5) 4), .ref (gw_ad w 0)]) rfl (S2 := S294) rfl ?_
              refine g_at rfl rfl (st2 := [vI (z), .ref (gw_ad w 0)]) (by rw [show upZ (shrZ a 5) 4 = z from ez.symm]) rfl ?_
              refine g_iconst (pc := 415) hX dL_law_415 ?_
              refine g_iconst (pc := 416) hX dL_law_416 ?_
              refine g_callD (pc := 417) (As := [vI (z), vI (0), vI (0)]) (st2 := []) hX hA3.N hA3.e (q_bandAt hA3 (z := z) (by omega) (by omega) hmay.2.2.2) gL_law_X6_bandAt (n := 3) (hw := rfl) (hrc := rfl) (hrs := rfl) (hd := by decide +kernel) (hR := ⟨Nat.le_of_ble_eq_true rfl, Nat.le_of_ble_eq_true rfl⟩) (hn := rfl) (hst := rfl) (hsum := Nat.le_of_ble_eq_true rfl) (hdg := dL_law_417) ?_
              rintro _ S9 ⟨rfl, e9⟩
              rw [e9]
              clear e9 S9
              refine g_at (pc2 := 420) rfl rfl (st2 := [vI (sL D3 z 0)]) rfl (S2 := S294) rfl ?_
              have hlm := hA3.lim (z := z) (by omega) (by omega) hmay.2.2.2
              refine g_ldc (pc := 420) hX (z := -1000001) (List.mem_of_getElem? (i := 6) rfl) (by decide +kernel) dL_law_420 ?_
              refine g_icmp_eq (pc := 422) (tgt := 429) hX (by first | assumption | exact inI_mk (by omega) (by omega)) (by first | assumption | exact inI_mk (by omega) (by omega)) dL_law_422 (by decide) (fun c_422 => ?_) (fun c_422 => ?_)
              · skip
                omega
              · skip
                refine g_iconst (pc := 425) hX dL_law_425 ?_
                refine g_goto (pc := 426) (tgt := 430) hX dL_law_426 (by decide) ?_
                refine g_istore (pc := 430) hX (lv2 := [(15, vI (1)), (14, vI (scGross (sF D3) (sG D3) - sG D3 3)), (0, .ref b), (1, .ref (gw_ad w 0)), (2, vI (snP D)), (3, vI (snN D)), (4, vI (snR D)), (5, vI (k)), (7, vI (a)), (8, vI (1))]) (by decide) rfl dL_law_430 ?_
                refine g_iconst (pc := 432) hX dL_law_432 ?_
                refine g_iload (pc := 433) hX 8 rfl dL_law_433 ?_
                refine g_iconst (pc := 435) hX dL_law_435 ?_
                refine g_ishr (pc := 436) hX dL_law_436 ?_
                refine g_sipush (pc := 437) hX (by decide) dL_law_437 ?_
                refine g_callT1 (pc := 440) (As := [vI (shrZ a 3), vI (500)]) (st2 := [vI (1)]) hX (c_L_up (x := shrZ a 3) (m := 500) (by omega) (by omega)) gL_law_L_up (n := 2) (hw := rfl) (hrc := rfl) (hrs := rfl) (hd := by decide +kernel) (hR := ⟨Nat.le_of_ble_eq_true rfl, Nat.le_of_ble_eq_true rfl⟩) (hn := rfl) (hst := rfl) (hsum := Nat.le_of_ble_eq_true rfl) (hdg := dL_law_440) ?_
                rintro _ S9 ⟨rfl, e9⟩
                rw [e9]
                clear e9 S9
                refine g_at (pc2 := 443) rfl rfl (st2 := [vI (upZ (shrZ a 3) 500), vI (1)]) rfl (S2 := S294) rfl ?_
                refine g_iadd (pc := 443) hX dL_law_443 ?_
                obtain ⟨sa, esa⟩ : ∃ z : Int, z = 1 + (upZ (shrZ a 3) 500) := ⟨_, rfl⟩
                refine g_at rfl rfl (st2 := [vI (sa)]) (by rw [esa]) rfl ?_
                have hsa : 1 ≤ sa ∧ sa ≤ 500 := by have := upZ_b (shrZ a 3) (m := 500) (by decide); omega
                refine g_istore (pc := 444) hX (lv2 := [(16, vI (sa)), (15, vI (1)), (14, vI (scGross (sF D3) (sG D3) - sG D3 3)), (0, .ref b), (1, .ref (gw_ad w 0)), (2, vI (snP D)), (3, vI (snN D)), (4, vI (snR D)), (5, vI (k)), (7, vI (a)), (8, vI (1))]) (by decide) rfl dL_law_444 ?_
                refine g_iconst (pc := 446) hX dL_law_446 ?_
                refine g_iload (pc := 447) hX 9 rfl dL_law_447 ?_
                refine g_bipush (pc := 449) hX (by decide) dL_law_449 ?_
                refine g_ishr (pc := 451) hX dL_law_451 ?_
                refine g_sipush (pc := 452) hX (by decide) dL_law_452 ?_
                refine g_callT1 (pc := 455) (As := [vI (shrZ a 7), vI (700)]) (st2 := [vI (1)]) hX (c_L_up (x := shrZ a 7) (m := 700) (by omega) (by omega)) gL_law_L_up (n := 2) (hw := rfl) (hrc := rfl) (hrs := rfl) (hd := by decide +kernel) (hR := ⟨Nat.le_of_ble_eq_true rfl, Nat.le_of_ble_eq_true rfl⟩) (hn := rfl) (hst := rfl) (hsum := Nat.le_of_ble_eq_true rfl) (hdg := dL_law_455) ?_
                rintro _ S9 ⟨rfl, e9⟩
                rw [e9]
                clear e9 S9
                refine g_at (pc2 := 458) rfl rfl (st2 := [vI (upZ (shrZ a 7) 700), vI (1)]) rfl (S2 := S294) rfl ?_
                refine g_iadd (pc := 458) hX dL_law_458 ?_
                obtain ⟨sb, esb⟩ : ∃ z : Int, z = 1 + (upZ (shrZ a 7) 700) := ⟨_, rfl⟩
                refine g_at rfl rfl (st2 := [vI (sb)]) (by rw [esb]) rfl ?_
                have hsb : 1 ≤ sb ∧ sb ≤ 700 := by have := upZ_b (shrZ a 7) (m := 700) (by decide); omega
                refine g_istore (pc := 459) hX (lv2 := [(17, vI (sb)), (16, vI (sa)), (15, vI (1)), (14, vI (scGross (sF D3) (sG D3) - sG D3 3)), (0, .ref b), (1, .ref (gw_ad w 0)), (2, vI (snP D)), (3, vI (snN D)), (4, vI (snR D)), (5, vI (k)), (7, vI (a)), (8, vI (1))]) (by decide) rfl dL_law_459 ?_
                refine g_iconst (pc := 461) hX dL_law_461 ?_
                refine g_iload (pc := 462) hX 10 rfl dL_law_462 ?_
                refine g_bipush (pc := 464) hX (by decide) dL_law_464 ?_
                refine g_ishr (pc := 466) hX dL_law_466 ?_
                refine g_sipush (pc := 467) hX (by decide) dL_law_467 ?_
                refine g_callT1 (pc := 470) (As := [vI (shrZ a 10), vI (400)]) (st2 := [vI (1)]) hX (c_L_up (x := shrZ a 10) (m := 400) (by omega) (by omega)) gL_law_L_up (n := 2) (hw := rfl) (hrc := rfl) (hrs := rfl) (hd := by decide +kernel) (hR := ⟨Nat.le_of_ble_eq_true rfl, Nat.le_of_ble_eq_true rfl⟩) (hn := rfl) (hst := rfl) (hsum := Nat.le_of_ble_eq_true rfl) (hdg := dL_law_470) ?_
                rintro _ S9 ⟨rfl, e9⟩
                rw [e9]
                clear e9 S9
                refine g_at (pc2 := 473) rfl rfl (st2 := [vI (upZ (shrZ a 10) 400), vI (1)]) rfl (S2 := S294) rfl ?_
                refine g_iadd (pc := 473) hX dL_law_473 ?_
                obtain ⟨sc, esc⟩ : ∃ z : Int, z = 1 + (upZ (shrZ a 10) 400) := ⟨_, rfl⟩
                refine g_at rfl rfl (st2 := [vI (sc)]) (by rw [esc]) rfl ?_
                have hsc : 1 ≤ sc ∧ sc ≤ 400 := by have := upZ_b (shrZ a 10) (m := 400) (by decide); omega
                refine g_istore (pc := 474) hX (lv2 := [(18, vI (sc)), (17, vI (sb)), (16, vI (sa)), (15, vI (1)), (14, vI (scGross (sF D3) (sG D3) - sG D3 3)), (0, .ref b), (1, .ref (gw_ad w 0)), (2, vI (snP D)), (3, vI (snN D)), (4, vI (snR D)), (5, vI (k)), (7, vI (a)), (8, vI (1))]) (by decide) rfl dL_law_474 ?_
                refine g_iload (pc := 476) hX 11 rfl dL_law_476 ?_
                refine g_iconst (pc := 478) hX dL_law_478 ?_
                refine g_ishr (pc := 479) hX dL_law_479 ?_
                refine g_iconst (pc := 480) hX dL_law_480 ?_
                refine g_callT1 (pc := 481) (As := [vI (shrZ a 5), vI (4)]) (st2 := []) hX (c_L_up (x := shrZ a 5) (m := 4) (by omega) (by omega)) gL_law_L_up (n := 2) (hw := rfl) (hrc := rfl) (hrs := rfl) (hd := by decide +kernel) (hR := ⟨Nat.le_of_ble_eq_true rfl, Nat.le_of_ble_eq_true rfl⟩) (hn := rfl) (hst := rfl) (hsum := Nat.le_of_ble_eq_true rfl) (hdg := dL_law_481) ?_
                rintro _ S9 ⟨rfl, e9⟩
                rw [e9]
                clear e9 S9
                refine g_at (pc2 := 484) rfl rfl (st2 := [vI (upZ (shrZ a 5) 4)]) rfl (S2 := S294) rfl ?_
                refine g_at rfl rfl (st2 := [vI (z)]) (by rw [show upZ (shrZ a 5) 4 = z from ez.symm]) rfl ?_
                refine g_istore (pc := 484) hX (lv2 := [(19, vI (z)), (18, vI (sc)), (17, vI (sb)), (16, vI (sa)), (15, vI (1)), (14, vI (scGross (sF D3) (sG D3) - sG D3 3)), (0, .ref b), (1, .ref (gw_ad w 0)), (2, vI (snP D)), (3, vI (snN D)), (4, vI (snR D)), (5, vI (k)), (7, vI (a)), (8, vI (1))]) (by decide) rfl dL_law_484 ?_
                refine g_aload_n (pc := 486) hX 7 rfl dL_law_486 ?_
                refine g_iload (pc := 487) hX 3 rfl dL_law_487 ?_
                refine g_iload (pc := 489) hX 2 rfl dL_law_489 ?_
                refine g_iload (pc := 491) hX 1 rfl dL_law_491 ?_
                refine g_iload (pc := 493) hX 0 rfl dL_law_493 ?_
                refine g_callD (pc := 495) (As := [vI (sa), vI (sb), vI (sc), vI (z)]) (st2 := []) hX hA3.N hA3.e (q_take hA3 (a := sa) (b := sb) (c := sc) (z := z) ⟨by omega, by omega⟩ ⟨by omega, by omega⟩ ⟨by omega, by omega⟩ ⟨by omega, by omega⟩ hmay (by omega)) gL_law_X6_take (n := 4) (hw := rfl) (hrc := rfl) (hrs := rfl) (hd := by decide +kernel) (hR := ⟨Nat.le_of_ble_eq_true rfl, Nat.le_of_ble_eq_true rfl⟩) (hn := rfl) (hst := rfl) (hsum := Nat.le_of_ble_eq_true rfl) (hdg := dL_law_495) ?_
                rintro _ S495 ⟨rfl, D4, hA4, gF, gG, ⟨gC, gP, gN, gR⟩, g0, g8⟩
                refine g_at (pc2 := 498) rfl rfl (st2 := [vI (snP D3)]) rfl (S2 := S495) rfl ?_
                have hr4 := hA4.row (p := snP D3) (by omega) (by omega)
                have u1 : sG D4 1 = sG D3 1 := by rw [gG]
                have hc4 : 0 < sC D4 z := by rw [gC]; exact hmay.2.2.2
                obtain ⟨F, eF⟩ : ∃ F : Int → Int → Int → Int → Int → Int, prW D4 = F := ⟨_, rfl⟩
                rw [eF] at g8
                refine g_istore (pc := 498) hX (lv2 := [(20, vI (snP D3)), (19, vI (z)), (18, vI (sc)), (17, vI (sb)), (16, vI (sa)), (15, vI (1)), (14, vI (scGross (sF D3) (sG D3) - sG D3 3)), (0, .ref b), (1, .ref (gw_ad w 0)), (2, vI (snP D)), (3, vI (snN D)), (4, vI (snR D)), (5, vI (k)), (7, vI (a)), (8, vI (1))]) (by decide) rfl dL_law_498 ?_
                refine g_iload (pc := 500) hX 14 rfl dL_law_500 ?_
                refine g_if_eq (pc := 502) (tgt := 525) hX (by first | assumption | exact inI_mk (by omega) (by omega)) dL_law_502 (by decide) (fun c_502 => ?_) (fun c_502 => ?_)
                · skip
                  exact absurd c_502 (by omega)
                · skip
                  refine g_iload (pc := 505) hX 0 rfl dL_law_505 ?_
                  refine g_iload (pc := 507) hX 5 rfl dL_law_507 ?_
                  refine g_if_eq (pc := 509) (tgt := 516) hX (by first | assumption | exact inI_mk (by omega) (by omega)) dL_law_509 (by decide) (fun c_509 => ?_) (fun c_509 => ?_)
                  · skip
                    exact absurd c_509 (by omega)
                  · skip
                    refine g_iload_n (pc := 512) hX 9 rfl dL_law_512 ?_
                    refine g_goto (pc := 513) (tgt := 518) hX dL_law_513 (by decide) ?_
                    refine g_icmp_ne (pc := 518) (tgt := 525) hX (by first | assumption | exact inI_mk (by omega) (by omega)) (by first | assumption | exact inI_mk (by omega) (by omega)) dL_law_518 (by decide) (fun c_518 => ?_) (fun c_518 => ?_)
                    · skip
                      omega
                    · skip
                      refine g_iconst (pc := 521) hX dL_law_521 ?_
                      refine g_goto (pc := 522) (tgt := 526) hX dL_law_522 (by decide) ?_
                      refine g_istore (pc := 526) hX (lv2 := [(8, vI (1)), (20, vI (snP D3)), (19, vI (z)), (18, vI (sc)), (17, vI (sb)), (16, vI (sa)), (15, vI (1)), (14, vI (scGross (sF D3) (sG D3) - sG D3 3)), (0, .ref b), (1, .ref (gw_ad w 0)), (2, vI (snP D)), (3, vI (snN D)), (4, vI (snR D)), (5, vI (k)), (7, vI (a))]) (by decide) rfl dL_law_526 ?_
                      refine g_iload_n (pc := 528) hX 10 rfl dL_law_528 ?_
                      refine g_iload (pc := 529) hX 1 rfl dL_law_529 ?_
                      refine g_if_lt (pc := 531) (tgt := 538) hX (by first | assumption | exact inI_mk (by omega) (by omega)) dL_law_531 (by decide) (fun c_531 => ?_) (fun c_531 => ?_)
                      · skip
                        omega
                      · skip
                        refine g_iconst (pc := 534) hX dL_law_534 ?_
                        refine g_goto (pc := 535) (tgt := 539) hX dL_law_535 (by decide) ?_
                        refine g_iadd (pc := 539) hX dL_law_539 ?_
                        refine g_istore_n (pc := 540) hX (lv2 := [(2, vI ((snP D) + 1)), (8, vI (1)), (20, vI (snP D3)), (19, vI (z)), (18, vI (sc)), (17, vI (sb)), (16, vI (sa)), (15, vI (1)), (14, vI (scGross (sF D3) (sG D3) - sG D3 3)), (0, .ref b), (1, .ref (gw_ad w 0)), (3, vI (snN D)), (4, vI (snR D)), (5, vI (k)), (7, vI (a))]) rfl (by decide) rfl dL_law_540 ?_
                        refine g_iload (pc := 541) hX 1 rfl dL_law_541 ?_
                        refine g_if_eq (pc := 543) (tgt := 599) hX (by first | assumption | exact inI_mk (by omega) (by omega)) dL_law_543 (by decide) (fun c_543 => ?_) (fun c_543 => ?_)
                        · skip
                          exact absurd c_543 (by omega)
                        · skip
                          refine g_iload (pc := 546) hX 2 rfl dL_law_546 ?_
                          refine g_if_lt (pc := 548) (tgt := 595) hX (by first | assumption | exact inI_mk (by omega) (by omega)) dL_law_548 (by decide) (fun c_548 => ?_) (fun c_548 => ?_)
                          · skip
                            omega
                          · skip
                            refine g_aload_n (pc := 551) hX 10 rfl dL_law_551 ?_
                            refine g_iload (pc := 552) hX 2 rfl dL_law_552 ?_
                            refine g_iconst (pc := 554) hX dL_law_554 ?_
                            refine g_callD (pc := 555) (As := [vI (snP D3), vI (0)]) (st2 := []) hX hA4.N hA4.e (q_parcel hA4 (p := snP D3) (x := 0) (by omega) (by omega) (by omega) (by omega)) gL_law_X6_parcel (n := 2) (hw := rfl) (hrc := rfl) (hrs := rfl) (hd := by decide +kernel) (hR := ⟨Nat.le_of_ble_eq_true rfl, Nat.le_of_ble_eq_true rfl⟩) (hn := rfl) (hst := rfl) (hsum := Nat.le_of_ble_eq_true rfl) (hdg := dL_law_555) ?_
                            rintro _ S9 ⟨rfl, e9⟩
                            rw [e9]
                            clear e9 S9
                            refine g_at (pc2 := 558) rfl rfl (st2 := [vI (sP D4 (snP D3) 0)]) rfl (S2 := S495) rfl ?_
                            refine g_iload (pc := 558) hX 8 rfl dL_law_558 ?_
                            refine g_icmp_ne (pc := 560) (tgt := 599) hX (by first | assumption | exact inI_mk (by omega) (by omega)) (by first | assumption | exact inI_mk (by omega) (by omega)) dL_law_560 (by decide) (fun c_560 => ?_) (fun c_560 => ?_)
                            · skip
                              exact absurd g0 c_560
                            · skip
                              refine g_iload (pc := 563) hX 8 rfl dL_law_563 ?_
                              refine g_ldc (pc := 565) hX (z := 100000) (List.mem_of_getElem? (i := 7) rfl) (by decide +kernel) dL_law_565 ?_
                              refine g_icmp_gt (pc := 567) (tgt := 595) hX (by first | assumption | exact inI_mk (by omega) (by omega)) (by first | assumption | exact inI_mk (by omega) (by omega)) dL_law_567 (by decide) (fun c_567 => ?_) (fun c_567 => ?_)
                              · skip
                                omega
                              · skip
                                refine g_aload_n (pc := 570) hX 10 rfl dL_law_570 ?_
                                refine g_iload (pc := 571) hX 2 rfl dL_law_571 ?_
                                refine g_bipush (pc := 573) hX (by decide) dL_law_573 ?_
                                refine g_callD (pc := 575) (As := [vI (snP D3), vI (8)]) (st2 := []) hX hA4.N hA4.e (q_parcel hA4 (p := snP D3) (x := 8) (by omega) (by omega) (by omega) (by omega)) gL_law_X6_parcel (n := 2) (hw := rfl) (hrc := rfl) (hrs := rfl) (hd := by decide +kernel) (hR := ⟨Nat.le_of_ble_eq_true rfl, Nat.le_of_ble_eq_true rfl⟩) (hn := rfl) (hst := rfl) (hsum := Nat.le_of_ble_eq_true rfl) (hdg := dL_law_575) ?_
                                rintro _ S9 ⟨rfl, e9⟩
                                rw [e9]
                                clear e9 S9
                                refine g_at (pc2 := 578) rfl rfl (st2 := [vI (sP D4 (snP D3) 8)]) rfl (S2 := S495) rfl ?_
                                refine g_aload_n (pc := 578) hX 10 rfl dL_law_578 ?_
                                refine g_iload (pc := 579) hX 8 rfl dL_law_579 ?_
                                refine g_iload (pc := 581) hX 6 rfl dL_law_581 ?_
                                refine g_iload (pc := 583) hX 5 rfl dL_law_583 ?_
                                refine g_iload (pc := 585) hX 4 rfl dL_law_585 ?_
                                refine g_iload (pc := 587) hX 3 rfl dL_law_587 ?_
                                refine g_callD (pc := 589) (As := [vI (scGross (sF D3) (sG D3) - sG D3 3), vI (sa), vI (sb), vI (sc), vI (z)]) (st2 := [vI (sP D4 (snP D3) 8)]) hX hA4.N hA4.e (qF_quote eF hA4 (m := scGross (sF D3) (sG D3) - sG D3 3) (a := sa) (b := sb) (c := sc) (z := z) ⟨by omega, by omega⟩ ⟨by omega, by omega⟩ ⟨by omega, by omega⟩ ⟨by omega, by omega⟩ ⟨by omega, by omega⟩ hc4) gL_law_X6_quote (n := 5) (hw := rfl) (hrc := rfl) (hrs := rfl) (hd := by decide +kernel) (hR := ⟨Nat.le_of_ble_eq_true rfl, Nat.le_of_ble_eq_true rfl⟩) (hn := rfl) (hst := rfl) (hsum := Nat.le_of_ble_eq_true rfl) (hdg := dL_law_589) ?_
                                rintro _ S589 ⟨rfl, hA589⟩
                                refine g_at (pc2 := 592) rfl rfl (st2 := [vI (F (scGross (sF D3) (sG D3) - sG D3 3) sa sb sc z), vI (sP D4 (snP D3) 8)]) rfl (S2 := S589) rfl ?_
                                have hq := F_b eF hA4.ok (m := scGross (sF D3) (sG D3) - sG D3 3) (a := sa) (b := sb) (c := sc) (z := z) ⟨by omega, by omega⟩ ⟨by omega, by omega⟩ ⟨by omega, by omega⟩ ⟨by omega, by omega⟩ ⟨by omega, by omega⟩ hc4
                                refine g_icmp_ne (pc := 592) (tgt := 599) hX (by first | assumption | exact inI_mk (by omega) (by omega)) (by first | assumption | exact inI_mk (by omega) (by omega)) dL_law_592 (by decide) (fun c_592 => ?_) (fun c_592 => ?_)
                                · skip
                                  exact absurd g8 c_592
                                · skip
                                  refine g_iconst (pc := 595) hX dL_law_595 ?_
                                  refine g_goto (pc := 596) (tgt := 600) hX dL_law_596 (by decide) ?_
                                  refine g_istore (pc := 600) hX (lv2 := [(8, vI (1)), (2, vI ((snP D) + 1)), (20, vI (snP D3)), (19, vI (z)), (18, vI (sc)), (17, vI (sb)), (16, vI (sa)), (15, vI (1)), (14, vI (scGross (sF D3) (sG D3) - sG D3 3)), (0, .ref b), (1, .ref (gw_ad w 0)), (3, vI (snN D)), (4, vI (snR D)), (5, vI (k)), (7, vI (a))]) (by decide) rfl dL_law_600 ?_
                                  refine g_goto (pc := 602) (tgt := 1488) hX dL_law_602 (by decide) ?_
                                  refine g_sub (lv2 := [(8, vI (1)), (0, .ref b), (1, .ref (gw_ad w 0)), (2, vI ((snP D) + 1)), (3, vI (snN D)), (4, vI (snR D)), (5, vI (k))]) [0, 9, 10, 1, 11, 12, 13] rfl ?_
                                  exact hend D4 S589 _ _ _ hA589 (by omega) (by omega) (by omega) ⟨by omega, by omega⟩
      · skip
        refine g_aload_n (pc := 375) hX 1 rfl dL_law_375 ?_
        have j430 : G w room_1 X 21 430 [(0, .ref b), (1, .ref (gw_ad w 0)), (2, vI (snP D)), (3, vI (snN D)), (4, vI (snR D)), (5, vI (k)), (7, vI (a)), (8, vI (1)), (14, vI (scGross (sF D3) (sG D3) - sG D3 3))] [vI (0)] S294 := by
          refine g_istore (pc := 430) hX (lv2 := [(15, vI (0)), (0, .ref b), (1, .ref (gw_ad w 0)), (2, vI (snP D)), (3, vI (snN D)), (4, vI (snR D)), (5, vI (k)), (7, vI (a)), (8, vI (1)), (14, vI (scGross (sF D3) (sG D3) - sG D3 3))]) (by decide) rfl dL_law_430 ?_
          refine g_iconst (pc := 432) hX dL_law_432 ?_
          refine g_iload (pc := 433) hX 7 rfl dL_law_433 ?_
          refine g_iconst (pc := 435) hX dL_law_435 ?_
          refine g_ishr (pc := 436) hX dL_law_436 ?_
          refine g_sipush (pc := 437) hX (by decide) dL_law_437 ?_
          refine g_callT1 (pc := 440) (As := [vI (shrZ a 3), vI (500)]) (st2 := [vI (1)]) hX (c_L_up (x := shrZ a 3) (m := 500) (by omega) (by omega)) gL_law_L_up (n := 2) (hw := rfl) (hrc := rfl) (hrs := rfl) (hd := by decide +kernel) (hR := ⟨Nat.le_of_ble_eq_true rfl, Nat.le_of_ble_eq_true rfl⟩) (hn := rfl) (hst := rfl) (hsum := Nat.le_of_ble_eq_true rfl) (hdg := dL_law_440) ?_
          rintro _ S9 ⟨rfl, e9⟩
          rw [e9]
          clear e9 S9
          refine g_at (pc2 := 443) rfl rfl (st2 := [vI (upZ (shrZ a 3) 500), vI (1)]) rfl (S2 := S294) rfl ?_
          refine g_iadd (pc := 443) hX dL_law_443 ?_
          obtain ⟨sa, esa⟩ : ∃ z : Int, z = 1 + (upZ (shrZ a 3) 500) := ⟨_, rfl⟩
          refine g_at rfl rfl (st2 := [vI (sa)]) (by rw [esa]) rfl ?_
          have hsa : 1 ≤ sa ∧ sa ≤ 500 := by have := upZ_b (shrZ a 3) (m := 500) (by decide); omega
          refine g_istore (pc := 444) hX (lv2 := [(16, vI (sa)), (15, vI (0)), (0, .ref b), (1, .ref (gw_ad w 0)), (2, vI (snP D)), (3, vI (snN D)), (4, vI (snR D)), (5, vI (k)), (7, vI (a)), (8, vI (1)), (14, vI (scGross (sF D3) (sG D3) - sG D3 3))]) (by decide) rfl dL_law_444 ?_
          refine g_iconst (pc := 446) hX dL_law_446 ?_
          refine g_iload (pc := 447) hX 8 rfl dL_law_447 ?_
          refine g_bipush (pc := 449) hX (by decide) dL_law_449 ?_
          refine g_ishr (pc := 451) hX dL_law_451 ?_
          refine g_sipush (pc := 452) hX (by decide) dL_law_452 ?_
          refine g_callT1 (pc := 455) (As := [vI (shrZ a 7), vI (700)]) (st2 := [vI (1)]) hX (c_L_up (x := shrZ a 7) (m := 700) (by omega) (by omega)) gL_law_L_up (n := 2) (hw := rfl) (hrc := rfl) (hrs := rfl) (hd := by decide +kernel) (hR := ⟨Nat.le_of_ble_eq_true rfl, Nat.le_of_ble_eq_true rfl⟩) (hn := rfl) (hst := rfl) (hsum := Nat.le_of_ble_eq_true rfl) (hdg := dL_law_455) ?_
          rintro _ S9 ⟨rfl, e9⟩
          rw [e9]
          clear e9 S9
          refine g_at (pc2 := 458) rfl rfl (st2 := [vI (upZ (shrZ a 7) 700), vI (1)]) rfl (S2 := S294) rfl ?_
          refine g_iadd (pc := 458) hX dL_law_458 ?_
          obtain ⟨sb, esb⟩ : ∃ z : Int, z = 1 + (upZ (shrZ a 7) 700) := ⟨_, rfl⟩
          refine g_at rfl rfl (st2 := [vI (sb)]) (by rw [esb]) rfl ?_
          have hsb : 1 ≤ sb ∧ sb ≤ 700 := by have := upZ_b (shrZ a 7) (m := 700) (by decide); omega
          refine g_istore (pc := 459) hX (lv2 := [(17, vI (sb)), (16, vI (sa)), (15, vI (0)), (0, .ref b), (1, .ref (gw_ad w 0)), (2, vI (snP D)), (3, vI (snN D)), (4, vI (snR D)), (5, vI (k)), (7, vI (a)), (8, vI (1)), (14, vI (scGross (sF D3) (sG D3) - sG D3 3))]) (by decide) rfl dL_law_459 ?_
          refine g_iconst (pc := 461) hX dL_law_461 ?_
          refine g_iload (pc := 462) hX 9 rfl dL_law_462 ?_
          refine g_bipush (pc := 464) hX (by decide) dL_law_464 ?_
          refine g_ishr (pc := 466) hX dL_law_466 ?_
          refine g_sipush (pc := 467) hX (by decide) dL_law_467 ?_
          refine g_callT1 (pc := 470) (As := [vI (shrZ a 10), vI (400)]) (st2 := [vI (1)]) hX (c_L_up (x := shrZ a 10) (m := 400) (by omega) (by omega)) gL_law_L_up (n := 2) (hw := rfl) (hrc := rfl) (hrs := rfl) (hd := by decide +kernel) (hR := ⟨Nat.le_of_ble_eq_true rfl, Nat.le_of_ble_eq_true rfl⟩) (hn := rfl) (hst := rfl) (hsum := Nat.le_of_ble_eq_true rfl) (hdg := dL_law_470) ?_
          rintro _ S9 ⟨rfl, e9⟩
          rw [e9]
          clear e9 S9
          refine g_at (pc2 := 473) rfl rfl (st2 := [vI (upZ (shrZ a 10) 400), vI (1)]) rfl (S2 := S294) rfl ?_
          refine g_iadd (pc := 473) hX dL_law_473 ?_
          obtain ⟨sc, esc⟩ : ∃ z : Int, z = 1 + (upZ (shrZ a 10) 400) := ⟨_, rfl⟩
          refine g_at rfl rfl (st2 := [vI (sc)]) (by rw [esc]) rfl ?_
          have hsc : 1 ≤ sc ∧ sc ≤ 400 := by have := upZ_b (shrZ a 10) (m := 400) (by decide); omega
          refine g_istore (pc := 474) hX (lv2 := [(18, vI (sc)), (17, vI (sb)), (16, vI (sa)), (15, vI (0)), (0, .ref b), (1, .ref (gw_ad w 0)), (2, vI (snP D)), (3, vI (snN D)), (4, vI (snR D)), (5, vI (k)), (7, vI (a)), (8, vI (1)), (14, vI (scGross (sF D3) (sG D3) - sG D3 3))]) (by decide) rfl dL_law_474 ?_
          refine g_iload (pc := 476) hX 10 rfl dL_law_476 ?_
          refine g_iconst (pc := 478) hX dL_law_478 ?_
          refine g_ishr (pc := 479) hX dL_law_479 ?_
          refine g_iconst (pc := 480) hX dL_law_480 ?_
          refine g_callT1 (pc := 481) (As := [vI (shrZ a 5), vI (4)]) (st2 := []) hX (c_L_up (x := shrZ a 5) (m := 4) (by omega) (by omega)) gL_law_L_up (n := 2) (hw := rfl) (hrc := rfl) (hrs := rfl) (hd := by decide +kernel) (hR := ⟨Nat.le_of_ble_eq_true rfl, Nat.le_of_ble_eq_true rfl⟩) (hn := rfl) (hst := rfl) (hsum := Nat.le_of_ble_eq_true rfl) (hdg := dL_law_481) ?_
          rintro _ S9 ⟨rfl, e9⟩
          rw [e9]
          clear e9 S9
          refine g_at (pc2 := 484) rfl rfl (st2 := [vI (upZ (shrZ a 5) 4)]) rfl (S2 := S294) rfl ?_
          refine g_at rfl rfl (st2 := [vI (z)]) (by rw [show upZ (shrZ a 5) 4 = z from ez.symm]) rfl ?_
          refine g_istore (pc := 484) hX (lv2 := [(19, vI (z)), (18, vI (sc)), (17, vI (sb)), (16, vI (sa)), (15, vI (0)), (0, .ref b), (1, .ref (gw_ad w 0)), (2, vI (snP D)), (3, vI (snN D)), (4, vI (snR D)), (5, vI (k)), (7, vI (a)), (8, vI (1)), (14, vI (scGross (sF D3) (sG D3) - sG D3 3))]) (by decide) rfl dL_law_484 ?_
          refine g_aload_n (pc := 486) hX 6 rfl dL_law_486 ?_
          refine g_iload (pc := 487) hX 3 rfl dL_law_487 ?_
          refine g_iload (pc := 489) hX 2 rfl dL_law_489 ?_
          refine g_iload (pc := 491) hX 1 rfl dL_law_491 ?_
          refine g_iload (pc := 493) hX 0 rfl dL_law_493 ?_
          refine g_callD (pc := 495) (As := [vI (sa), vI (sb), vI (sc), vI (z)]) (st2 := []) hX hA3.N hA3.e (s_take hA3 (a := sa) (b := sb) (c := sc) (z := z) ⟨by omega, by omega⟩ ⟨by omega, by omega⟩ ⟨by omega, by omega⟩ ⟨by omega, by omega⟩ hmay) gL_law_X6_take (n := 4) (hw := rfl) (hrc := rfl) (hrs := rfl) (hd := by decide +kernel) (hR := ⟨Nat.le_of_ble_eq_true rfl, Nat.le_of_ble_eq_true rfl⟩) (hn := rfl) (hst := rfl) (hsum := Nat.le_of_ble_eq_true rfl) (hdg := dL_law_495) ?_
          rintro _ S9 ⟨rfl, e9⟩
          rw [e9]
          clear e9 S9
          refine g_at (pc2 := 498) rfl rfl (st2 := [vI (-1000002)]) rfl (S2 := S294) rfl ?_
          refine g_istore (pc := 498) hX (lv2 := [(20, vI (-1000002)), (19, vI (z)), (18, vI (sc)), (17, vI (sb)), (16, vI (sa)), (15, vI (0)), (0, .ref b), (1, .ref (gw_ad w 0)), (2, vI (snP D)), (3, vI (snN D)), (4, vI (snR D)), (5, vI (k)), (7, vI (a)), (8, vI (1)), (14, vI (scGross (sF D3) (sG D3) - sG D3 3))]) (by decide) rfl dL_law_498 ?_
          refine g_iload (pc := 500) hX 13 rfl dL_law_500 ?_
          refine g_if_eq (pc := 502) (tgt := 525) hX (by first | assumption | exact inI_mk (by omega) (by omega)) dL_law_502 (by decide) (fun c_502 => ?_) (fun c_502 => ?_)
          · skip
            exact absurd c_502 (by omega)
          · skip
            refine g_iload (pc := 505) hX 0 rfl dL_law_505 ?_
            refine g_iload (pc := 507) hX 5 rfl dL_law_507 ?_
            refine g_if_eq (pc := 509) (tgt := 516) hX (by first | assumption | exact inI_mk (by omega) (by omega)) dL_law_509 (by decide) (fun c_509 => ?_) (fun c_509 => ?_)
            · skip
              refine g_ldc (pc := 516) hX (z := -1000002) (List.mem_of_getElem? (i := 4) rfl) (by decide +kernel) dL_law_516 ?_
              refine g_icmp_ne (pc := 518) (tgt := 525) hX (by first | assumption | exact inI_mk (by omega) (by omega)) (by first | assumption | exact inI_mk (by omega) (by omega)) dL_law_518 (by decide) (fun c_518 => ?_) (fun c_518 => ?_)
              · skip
                exact absurd c_518 (by omega)
              · skip
                refine g_iconst (pc := 521) hX dL_law_521 ?_
                refine g_goto (pc := 522) (tgt := 526) hX dL_law_522 (by decide) ?_
                refine g_istore (pc := 526) hX (lv2 := [(8, vI (1)), (20, vI (-1000002)), (19, vI (z)), (18, vI (sc)), (17, vI (sb)), (16, vI (sa)), (15, vI (0)), (0, .ref b), (1, .ref (gw_ad w 0)), (2, vI (snP D)), (3, vI (snN D)), (4, vI (snR D)), (5, vI (k)), (7, vI (a)), (14, vI (scGross (sF D3) (sG D3) - sG D3 3))]) (by decide) rfl dL_law_526 ?_
                refine g_iload_n (pc := 528) hX 9 rfl dL_law_528 ?_
                refine g_iload (pc := 529) hX 1 rfl dL_law_529 ?_
                refine g_if_lt (pc := 531) (tgt := 538) hX (by first | assumption | exact inI_mk (by omega) (by omega)) dL_law_531 (by decide) (fun c_531 => ?_) (fun c_531 => ?_)
                · skip
                  refine g_iconst (pc := 538) hX dL_law_538 ?_
                  refine g_iadd (pc := 539) hX dL_law_539 ?_
                  refine g_istore_n (pc := 540) hX (lv2 := [(2, vI ((snP D) + 0)), (8, vI (1)), (20, vI (-1000002)), (19, vI (z)), (18, vI (sc)), (17, vI (sb)), (16, vI (sa)), (15, vI (0)), (0, .ref b), (1, .ref (gw_ad w 0)), (3, vI (snN D)), (4, vI (snR D)), (5, vI (k)), (7, vI (a)), (14, vI (scGross (sF D3) (sG D3) - sG D3 3))]) rfl (by decide) rfl dL_law_540 ?_
                  refine g_iload (pc := 541) hX 1 rfl dL_law_541 ?_
                  refine g_if_eq (pc := 543) (tgt := 599) hX (by first | assumption | exact inI_mk (by omega) (by omega)) dL_law_543 (by decide) (fun c_543 => ?_) (fun c_543 => ?_)
                  · skip
                    exact absurd c_543 (by omega)
                  · skip
                    refine g_iload (pc := 546) hX 2 rfl dL_law_546 ?_
                    refine g_if_lt (pc := 548) (tgt := 595) hX (by first | assumption | exact inI_mk (by omega) (by omega)) dL_law_548 (by decide) (fun c_548 => ?_) (fun c_548 => ?_)
                    · skip
                      refine g_iconst (pc := 595) hX dL_law_595 ?_
                      refine g_goto (pc := 596) (tgt := 600) hX dL_law_596 (by decide) ?_
                      refine g_istore (pc := 600) hX (lv2 := [(8, vI (1)), (2, vI ((snP D) + 0)), (20, vI (-1000002)), (19, vI (z)), (18, vI (sc)), (17, vI (sb)), (16, vI (sa)), (15, vI (0)), (0, .ref b), (1, .ref (gw_ad w 0)), (3, vI (snN D)), (4, vI (snR D)), (5, vI (k)), (7, vI (a)), (14, vI (scGross (sF D3) (sG D3) - sG D3 3))]) (by decide) rfl dL_law_600 ?_
                      refine g_goto (pc := 602) (tgt := 1488) hX dL_law_602 (by decide) ?_
                      refine g_sub (lv2 := [(8, vI (1)), (0, .ref b), (1, .ref (gw_ad w 0)), (2, vI ((snP D) + 0)), (3, vI (snN D)), (4, vI (snR D)), (5, vI (k))]) [0, 8, 9, 1, 10, 11, 12] rfl ?_
                      exact hend D3 S294 _ _ _ hA3 (by omega) (by omega) (by omega) ⟨by omega, by omega⟩
                    · skip
                      exact absurd c_548 (by omega)
                · skip
                  exact absurd c_531 (by omega)
            · skip
              exact absurd c_509 (by omega)
        refine g_iconst (pc := 376) hX dL_law_376 ?_
        refine g_callD (pc := 377) (As := [vI (3)]) (st2 := []) hX hA3.N hA3.e (q_scale3 hA3) gL_law_X6_scale (n := 1) (hw := rfl) (hrc := rfl) (hrs := rfl) (hd := by decide +kernel) (hR := ⟨Nat.le_of_ble_eq_true rfl, Nat.le_of_ble_eq_true rfl⟩) (hn := rfl) (hst := rfl) (hsum := Nat.le_of_ble_eq_true rfl) (hdg := dL_law_377) ?_
        rintro _ S9 ⟨rfl, e9⟩
        rw [e9]
        clear e9 S9
        refine g_at (pc2 := 380) rfl rfl (st2 := [vI (scGross (sF D3) (sG D3) - sG D3 3)]) rfl (S2 := S294) rfl ?_
        refine g_istore (pc := 380) hX (lv2 := [(14, vI (scGross (sF D3) (sG D3) - sG D3 3)), (0, .ref b), (1, .ref (gw_ad w 0)), (2, vI (snP D)), (3, vI (snN D)), (4, vI (snR D)), (5, vI (k)), (7, vI (a)), (8, vI (1))]) (by decide) rfl dL_law_380 ?_
        refine g_aload_n (pc := 382) hX 2 rfl dL_law_382 ?_
        refine g_bipush (pc := 383) hX (by decide) dL_law_383 ?_
        refine g_callD (pc := 385) (As := [vI (7)]) (st2 := []) hX hA3.N hA3.e (q_scale7 hA3) gL_law_X6_scale (n := 1) (hw := rfl) (hrc := rfl) (hrs := rfl) (hd := by decide +kernel) (hR := ⟨Nat.le_of_ble_eq_true rfl, Nat.le_of_ble_eq_true rfl⟩) (hn := rfl) (hst := rfl) (hsum := Nat.le_of_ble_eq_true rfl) (hdg := dL_law_385) ?_
        rintro _ S9 ⟨rfl, e9⟩
        rw [e9]
        clear e9 S9
        refine g_at (pc2 := 388) rfl rfl (st2 := [vI (bz (scSteady (sF D3) (sG D3)))]) rfl (S2 := S294) rfl ?_
        refine g_iconst (pc := 388) hX dL_law_388 ?_
        refine g_bcmp_ne (pc := 389) (tgt := 429) (a := scSteady (sF D3) (sG D3)) (b := true) hX dL_law_389 (by decide) (fun c_389 => ?_) (fun c_389 => ?_)
        · skip
          refine g_iconst (pc := 429) hX dL_law_429 ?_
          refine g_sub (lv2 := [(0, .ref b), (1, .ref (gw_ad w 0)), (2, vI (snP D)), (3, vI (snN D)), (4, vI (snR D)), (5, vI (k)), (7, vI (a)), (8, vI (1)), (14, vI (scGross (sF D3) (sG D3) - sG D3 3))]) [1, 2, 3, 4, 5, 6, 7, 8, 0] rfl ?_
          exact j430  
        · skip
          refine g_aload_n (pc := 392) hX 2 rfl dL_law_392 ?_
          refine g_bipush (pc := 393) hX (by decide) dL_law_393 ?_
          refine g_callD (pc := 395) (As := [vI (8)]) (st2 := []) hX hA3.N hA3.e (q_scale8 hA3) gL_law_X6_scale (n := 1) (hw := rfl) (hrc := rfl) (hrs := rfl) (hd := by decide +kernel) (hR := ⟨Nat.le_of_ble_eq_true rfl, Nat.le_of_ble_eq_true rfl⟩) (hn := rfl) (hst := rfl) (hsum := Nat.le_of_ble_eq_true rfl) (hdg := dL_law_395) ?_
          rintro _ S9 ⟨rfl, e9⟩
          rw [e9]
          clear e9 S9
          refine g_at (pc2 := 398) rfl rfl (st2 := [vI (bz (scOver (sF D3) (sG D3)))]) rfl (S2 := S294) rfl ?_
          refine g_bif_ne (pc := 398) (tgt := 429) hX dL_law_398 (by decide) (fun c_398 => ?_) (fun c_398 => ?_)
          · skip
            refine g_iconst (pc := 429) hX dL_law_429 ?_
            refine g_sub (lv2 := [(0, .ref b), (1, .ref (gw_ad w 0)), (2, vI (snP D)), (3, vI (snN D)), (4, vI (snR D)), (5, vI (k)), (7, vI (a)), (8, vI (1)), (14, vI (scGross (sF D3) (sG D3) - sG D3 3))]) [1, 2, 3, 4, 5, 6, 7, 8, 0] rfl ?_
            exact j430  
          · skip
            refine g_iload (pc := 401) hX 0 rfl dL_law_401 ?_
            refine g_if_le (pc := 403) (tgt := 429) hX (by first | assumption | exact inI_mk (by omega) (by omega)) dL_law_403 (by decide) (fun c_403 => ?_) (fun c_403 => ?_)
            · skip
              refine g_iconst (pc := 429) hX dL_law_429 ?_
              refine g_sub (lv2 := [(0, .ref b), (1, .ref (gw_ad w 0)), (2, vI (snP D)), (3, vI (snN D)), (4, vI (snR D)), (5, vI (k)), (7, vI (a)), (8, vI (1)), (14, vI (scGross (sF D3) (sG D3) - sG D3 3))]) [1, 2, 3, 4, 5, 6, 7, 8, 0] rfl ?_
              exact j430  
            · skip
              by_cases hcz : 0 < sC D3 z
              · skip
                refine g_aload_n (pc := 406) hX 2 rfl dL_law_406 ?_
                refine g_iload (pc := 407) hX 7 rfl dL_law_407 ?_
                refine g_iconst (pc := 409) hX dL_law_409 ?_
                refine g_ishr (pc := 410) hX dL_law_410 ?_
                refine g_iconst (pc := 411) hX dL_law_411 ?_
                refine g_callT1 (pc := 412) (As := [vI (shrZ a 5), vI (4)]) (st2 := [.ref (gw_ad w 0)]) hX (c_L_up (x := shrZ a 5) (m := 4) (by omega) (by omega)) gL_law_L_up (n := 2) (hw := rfl) (hrc := rfl) (hrs := rfl) (hd := by decide +kernel) (hR := ⟨Nat.le_of_ble_eq_true rfl, Nat.le_of_ble_eq_true rfl⟩) (hn := rfl) (hst := rfl) (hsum := Nat.le_of_ble_eq_true rfl) (hdg := dL_law_412) ?_
                rintro _ S9 ⟨rfl, e9⟩
                rw [e9]
                clear e9 S9
                refine g_at (pc2 := 415) rfl rfl (st2 := [vI (upZ (shrZ a 5) 4), .ref (gw_ad w 0)]) rfl (S2 := S294) rfl ?_
                refine g_at rfl rfl (st2 := [vI (z), .ref (gw_ad w 0)]) (by rw [show upZ (shrZ a 5) 4 = z from ez.symm]) rfl ?_
                refine g_iconst (pc := 415) hX dL_law_415 ?_
                refine g_iconst (pc := 416) hX dL_law_416 ?_
                refine g_callD (pc := 417) (As := [vI (z), vI (0), vI (0)]) (st2 := []) hX hA3.N hA3.e (q_bandAt hA3 (z := z) (by omega) (by omega) hcz) gL_law_X6_bandAt (n := 3) (hw := rfl) (hrc := rfl) (hrs := rfl) (hd := by decide +kernel) (hR := ⟨Nat.le_of_ble_eq_true rfl, Nat.le_of_ble_eq_true rfl⟩) (hn := rfl) (hst := rfl) (hsum := Nat.le_of_ble_eq_true rfl) (hdg := dL_law_417) ?_
                rintro _ S9 ⟨rfl, e9⟩
                rw [e9]
                clear e9 S9
                refine g_at (pc2 := 420) rfl rfl (st2 := [vI (sL D3 z 0)]) rfl (S2 := S294) rfl ?_
                have hlm := hA3.lim (z := z) (by omega) (by omega) hcz
                refine g_ldc (pc := 420) hX (z := -1000001) (List.mem_of_getElem? (i := 6) rfl) (by decide +kernel) dL_law_420 ?_
                refine g_icmp_eq (pc := 422) (tgt := 429) hX (by first | assumption | exact inI_mk (by omega) (by omega)) (by first | assumption | exact inI_mk (by omega) (by omega)) dL_law_422 (by decide) (fun c_422 => ?_) (fun c_422 => ?_)
                · skip
                  omega
                · skip
                  exact absurd ⟨c_389.symm, c_398, by omega, hcz⟩ hmay
              · skip
                refine g_aload_n (pc := 406) hX 2 rfl dL_law_406 ?_
                refine g_iload (pc := 407) hX 7 rfl dL_law_407 ?_
                refine g_iconst (pc := 409) hX dL_law_409 ?_
                refine g_ishr (pc := 410) hX dL_law_410 ?_
                refine g_iconst (pc := 411) hX dL_law_411 ?_
                refine g_callT1 (pc := 412) (As := [vI (shrZ a 5), vI (4)]) (st2 := [.ref (gw_ad w 0)]) hX (c_L_up (x := shrZ a 5) (m := 4) (by omega) (by omega)) gL_law_L_up (n := 2) (hw := rfl) (hrc := rfl) (hrs := rfl) (hd := by decide +kernel) (hR := ⟨Nat.le_of_ble_eq_true rfl, Nat.le_of_ble_eq_true rfl⟩) (hn := rfl) (hst := rfl) (hsum := Nat.le_of_ble_eq_true rfl) (hdg := dL_law_412) ?_
                rintro _ S9 ⟨rfl, e9⟩
                rw [e9]
                clear e9 S9
                refine g_at (pc2 := 415) rfl rfl (st2 := [vI (upZ (shrZ a 5) 4), .ref (gw_ad w 0)]) rfl (S2 := S294) rfl ?_
                refine g_at rfl rfl (st2 := [vI (z), .ref (gw_ad w 0)]) (by rw [show upZ (shrZ a 5) 4 = z from ez.symm]) rfl ?_
                refine g_iconst (pc := 415) hX dL_law_415 ?_
                refine g_iconst (pc := 416) hX dL_law_416 ?_
                refine g_callD (pc := 417) (As := [vI (z), vI (0), vI (0)]) (st2 := []) hX hA3.N hA3.e (x_bandAt hA3 (z := z) (i := 0) (x := 0) (inI_mk (by omega) (by omega)) (inI_mk (by omega) (by omega)) (inI_mk (by omega) (by omega)) (by omega)) gL_law_X6_bandAt (n := 3) (hw := rfl) (hrc := rfl) (hrs := rfl) (hd := by decide +kernel) (hR := ⟨Nat.le_of_ble_eq_true rfl, Nat.le_of_ble_eq_true rfl⟩) (hn := rfl) (hst := rfl) (hsum := Nat.le_of_ble_eq_true rfl) (hdg := dL_law_417) ?_
                rintro _ S9 ⟨rfl, e9⟩
                rw [e9]
                clear e9 S9
                refine g_at (pc2 := 420) rfl rfl (st2 := [vI (-1000001)]) rfl (S2 := S294) rfl ?_
                refine g_ldc (pc := 420) hX (z := -1000001) (List.mem_of_getElem? (i := 6) rfl) (by decide +kernel) dL_law_420 ?_
                refine g_icmp_eq (pc := 422) (tgt := 429) hX (by first | assumption | exact inI_mk (by omega) (by omega)) (by first | assumption | exact inI_mk (by omega) (by omega)) dL_law_422 (by decide) (fun c_422 => ?_) (fun c_422 => ?_)
                · skip
                  refine g_iconst (pc := 429) hX dL_law_429 ?_
                  refine g_sub (lv2 := [(0, .ref b), (1, .ref (gw_ad w 0)), (2, vI (snP D)), (3, vI (snN D)), (4, vI (snR D)), (5, vI (k)), (7, vI (a)), (8, vI (1)), (14, vI (scGross (sF D3) (sG D3) - sG D3 3))]) [1, 2, 3, 4, 5, 6, 7, 8, 0] rfl ?_
                  exact j430  
                · skip
                  exact absurd c_422 (by omega)
    refine g_aload_n (pc := 299) hX 3 rfl dL_law_299 ?_
    refine g_bipush (pc := 300) hX (by decide) dL_law_300 ?_
    refine g_callD (pc := 302) (As := [vI (10)]) (st2 := []) hX hA3.N hA3.e (q_scale10 hA3) gL_law_X6_scale (n := 1) (hw := rfl) (hrc := rfl) (hrs := rfl) (hd := by decide +kernel) (hR := ⟨Nat.le_of_ble_eq_true rfl, Nat.le_of_ble_eq_true rfl⟩) (hn := rfl) (hst := rfl) (hsum := Nat.le_of_ble_eq_true rfl) (hdg := dL_law_302) ?_
    rintro _ S9 ⟨rfl, e9⟩
    rw [e9]
    clear e9 S9
    refine g_at (pc2 := 305) rfl rfl (st2 := [vI (sG D3 0)]) rfl (S2 := S294) rfl ?_
    refine g_iload (pc := 305) hX 1 rfl dL_law_305 ?_
    refine g_icmp_ne (pc := 307) (tgt := 372) hX (by first | assumption | exact inI_mk (by omega) (by omega)) (by first | assumption | exact inI_mk (by omega) (by omega)) dL_law_307 (by decide) (fun c_307 => ?_) (fun c_307 => ?_)
    · skip
      omega
    · skip
      refine g_iload (pc := 310) hX 0 rfl dL_law_310 ?_
      refine g_aload_n (pc := 312) hX 3 rfl dL_law_312 ?_
      refine g_iconst (pc := 313) hX dL_law_313 ?_
      refine g_callD (pc := 314) (As := [vI (1)]) (st2 := [vI (scRaw (sF D3) (sG D3))]) hX hA3.N hA3.e (q_scale1 hA3) gL_law_X6_scale (n := 1) (hw := rfl) (hrc := rfl) (hrs := rfl) (hd := by decide +kernel) (hR := ⟨Nat.le_of_ble_eq_true rfl, Nat.le_of_ble_eq_true rfl⟩) (hn := rfl) (hst := rfl) (hsum := Nat.le_of_ble_eq_true rfl) (hdg := dL_law_314) ?_
      rintro _ S9 ⟨rfl, e9⟩
      rw [e9]
      clear e9 S9
      refine g_at (pc2 := 317) rfl rfl (st2 := [vI (scRaw (sF D3) (sG D3)), vI (scRaw (sF D3) (sG D3))]) rfl (S2 := S294) rfl ?_
      refine g_icmp_ne (pc := 317) (tgt := 372) hX (by first | assumption | exact inI_mk (by omega) (by omega)) (by first | assumption | exact inI_mk (by omega) (by omega)) dL_law_317 (by decide) (fun c_317 => ?_) (fun c_317 => ?_)
      · skip
        omega
      · skip
        refine g_aload_n (pc := 320) hX 3 rfl dL_law_320 ?_
        refine g_callT1 (pc := 321) (As := [.ref (gw_ad w 0)]) (st2 := []) hX (c_L_scale hA3) gL_law_L_scale (n := 1) (hw := rfl) (hrc := rfl) (hrs := rfl) (hd := by decide +kernel) (hR := ⟨Nat.le_of_ble_eq_true rfl, Nat.le_of_ble_eq_true rfl⟩) (hn := rfl) (hst := rfl) (hsum := Nat.le_of_ble_eq_true rfl) (hdg := dL_law_321) ?_
        rintro _ S9 ⟨rfl, e9⟩
        rw [e9]
        clear e9 S9
        refine g_at (pc2 := 324) rfl rfl (st2 := [vI (bz (true))]) rfl (S2 := S294) rfl ?_
        refine g_bif_eq (pc := 324) (tgt := 372) hX dL_law_324 (by decide) (fun c_324 => ?_) (fun c_324 => ?_)
        · skip
          exact absurd c_324 (by decide)
        · skip
          refine g_aload_n (pc := 327) hX 3 rfl dL_law_327 ?_
          refine g_bipush (pc := 328) hX (by decide) dL_law_328 ?_
          refine g_callD (pc := 330) (As := [vI (7)]) (st2 := []) hX hA3.N hA3.e (q_scale7 hA3) gL_law_X6_scale (n := 1) (hw := rfl) (hrc := rfl) (hrs := rfl) (hd := by decide +kernel) (hR := ⟨Nat.le_of_ble_eq_true rfl, Nat.le_of_ble_eq_true rfl⟩) (hn := rfl) (hst := rfl) (hsum := Nat.le_of_ble_eq_true rfl) (hdg := dL_law_330) ?_
          rintro _ S9 ⟨rfl, e9⟩
          rw [e9]
          clear e9 S9
          refine g_at (pc2 := 333) rfl rfl (st2 := [vI (bz (scSteady (sF D3) (sG D3)))]) rfl (S2 := S294) rfl ?_
          refine g_iconst (pc := 333) hX dL_law_333 ?_
          refine g_bcmp_ne (pc := 334) (tgt := 341) (a := scSteady (sF D3) (sG D3)) (b := true) hX dL_law_334 (by decide) (fun c_334 => ?_) (fun c_334 => ?_)
          · skip
            refine g_iconst (pc := 341) hX dL_law_341 ?_
            refine g_iconst (pc := 342) hX dL_law_342 ?_
            refine g_aload_n (pc := 343) hX 3 rfl dL_law_343 ?_
            refine g_iconst (pc := 344) hX dL_law_344 ?_
            refine g_callD (pc := 345) (As := [vI (0)]) (st2 := [vI (2), vI (0)]) hX hA3.N hA3.e (q_setting hA3 (i := 0) (by omega) (by omega)) gL_law_X6_setting (n := 1) (hw := rfl) (hrc := rfl) (hrs := rfl) (hd := by decide +kernel) (hR := ⟨Nat.le_of_ble_eq_true rfl, Nat.le_of_ble_eq_true rfl⟩) (hn := rfl) (hst := rfl) (hsum := Nat.le_of_ble_eq_true rfl) (hdg := dL_law_345) ?_
            rintro _ S9 ⟨rfl, e9⟩
            rw [e9]
            clear e9 S9
            refine g_at (pc2 := 348) rfl rfl (st2 := [vI (sF D3 0), vI (2), vI (0)]) rfl (S2 := S294) rfl ?_
            refine g_callT1 (pc := 348) (As := [vI (sF D3 0)]) (st2 := [vI (2), vI (0)]) hX (c_L_size (x := sF D3 0) (by omega) (by omega)) gL_law_L_size (n := 1) (hw := rfl) (hrc := rfl) (hrs := rfl) (hd := by decide +kernel) (hR := ⟨Nat.le_of_ble_eq_true rfl, Nat.le_of_ble_eq_true rfl⟩) (hn := rfl) (hst := rfl) (hsum := Nat.le_of_ble_eq_true rfl) (hdg := dL_law_348) ?_
            rintro _ S9 ⟨rfl, e9⟩
            rw [e9]
            clear e9 S9
            refine g_at (pc2 := 351) rfl rfl (st2 := [vI (sizeZ (sF D3 0)), vI (2), vI (0)]) rfl (S2 := S294) rfl ?_
            obtain ⟨sz, esz⟩ : ∃ z : Int, z = sizeZ (sF D3 0) := ⟨_, rfl⟩
            refine g_at rfl rfl (st2 := [vI (sz), vI (2), vI (0)]) (by rw [esz]) rfl ?_
            have hsz : 0 ≤ sz ∧ sz ≤ 20 := by rw [esz]; unfold sizeZ; split <;> omega
            rw [← esz] at k7
            refine g_imul (pc := 351) hX dL_law_351 ?_
            refine g_aload_n (pc := 352) hX 3 rfl dL_law_352 ?_
            refine g_iconst (pc := 353) hX dL_law_353 ?_
            refine g_callD (pc := 354) (As := [vI (4)]) (st2 := [vI (2 * sz), vI (0)]) hX hA3.N hA3.e (q_setting hA3 (i := 4) (by omega) (by omega)) gL_law_X6_setting (n := 1) (hw := rfl) (hrc := rfl) (hrs := rfl) (hd := by decide +kernel) (hR := ⟨Nat.le_of_ble_eq_true rfl, Nat.le_of_ble_eq_true rfl⟩) (hn := rfl) (hst := rfl) (hsum := Nat.le_of_ble_eq_true rfl) (hdg := dL_law_354) ?_
            rintro _ S9 ⟨rfl, e9⟩
            rw [e9]
            clear e9 S9
            refine g_at (pc2 := 357) rfl rfl (st2 := [vI (sF D3 4), vI (2 * sz), vI (0)]) rfl (S2 := S294) rfl ?_
            refine g_icmp_gt (pc := 357) (tgt := 364) hX (by first | assumption | exact inI_mk (by omega) (by omega)) (by first | assumption | exact inI_mk (by omega) (by omega)) dL_law_357 (by decide) (fun c_357 => ?_) (fun c_357 => ?_)
            · skip
              refine g_iconst (pc := 364) hX dL_law_364 ?_
              refine g_icmp_ne (pc := 365) (tgt := 372) hX (by first | assumption | exact inI_mk (by omega) (by omega)) (by first | assumption | exact inI_mk (by omega) (by omega)) dL_law_365 (by decide) (fun c_365 => ?_) (fun c_365 => ?_)
              · skip
                exact absurd c_365 (by omega)
              · skip
                refine g_iconst (pc := 368) hX dL_law_368 ?_
                refine g_goto (pc := 369) (tgt := 373) hX dL_law_369 (by decide) ?_
                refine g_istore (pc := 373) hX (lv2 := [(8, vI (1)), (13, vI (scRaw (sF D3) (sG D3))), (12, vI (ld)), (0, .ref b), (1, .ref (gw_ad w 0)), (2, vI (snP D)), (3, vI (snN D)), (4, vI (snR D)), (5, vI (k)), (6, vI (q)), (7, vI (a)), (9, vI (how)), (10, vL (fpZ D))]) (by decide) rfl dL_law_373 ?_
                refine g_sub (lv2 := [(0, .ref b), (1, .ref (gw_ad w 0)), (2, vI (snP D)), (3, vI (snN D)), (4, vI (snR D)), (5, vI (k)), (7, vI (a)), (8, vI (1))]) [3, 4, 5, 6, 7, 8, 10, 0] rfl ?_
                exact j375  
            · skip
              rw [k7, decide_eq_true c_357] at c_334
              exact absurd c_334 (by decide)
          · skip
            refine g_iconst (pc := 337) hX dL_law_337 ?_
            refine g_goto (pc := 338) (tgt := 342) hX dL_law_338 (by decide) ?_
            refine g_iconst (pc := 342) hX dL_law_342 ?_
            refine g_aload_n (pc := 343) hX 3 rfl dL_law_343 ?_
            refine g_iconst (pc := 344) hX dL_law_344 ?_
            refine g_callD (pc := 345) (As := [vI (0)]) (st2 := [vI (2), vI (1)]) hX hA3.N hA3.e (q_setting hA3 (i := 0) (by omega) (by omega)) gL_law_X6_setting (n := 1) (hw := rfl) (hrc := rfl) (hrs := rfl) (hd := by decide +kernel) (hR := ⟨Nat.le_of_ble_eq_true rfl, Nat.le_of_ble_eq_true rfl⟩) (hn := rfl) (hst := rfl) (hsum := Nat.le_of_ble_eq_true rfl) (hdg := dL_law_345) ?_
            rintro _ S9 ⟨rfl, e9⟩
            rw [e9]
            clear e9 S9
            refine g_at (pc2 := 348) rfl rfl (st2 := [vI (sF D3 0), vI (2), vI (1)]) rfl (S2 := S294) rfl ?_
            refine g_callT1 (pc := 348) (As := [vI (sF D3 0)]) (st2 := [vI (2), vI (1)]) hX (c_L_size (x := sF D3 0) (by omega) (by omega)) gL_law_L_size (n := 1) (hw := rfl) (hrc := rfl) (hrs := rfl) (hd := by decide +kernel) (hR := ⟨Nat.le_of_ble_eq_true rfl, Nat.le_of_ble_eq_true rfl⟩) (hn := rfl) (hst := rfl) (hsum := Nat.le_of_ble_eq_true rfl) (hdg := dL_law_348) ?_
            rintro _ S9 ⟨rfl, e9⟩
            rw [e9]
            clear e9 S9
            refine g_at (pc2 := 351) rfl rfl (st2 := [vI (sizeZ (sF D3 0)), vI (2), vI (1)]) rfl (S2 := S294) rfl ?_
            obtain ⟨sz, esz⟩ : ∃ z : Int, z = sizeZ (sF D3 0) := ⟨_, rfl⟩
            refine g_at rfl rfl (st2 := [vI (sz), vI (2), vI (1)]) (by rw [esz]) rfl ?_
            have hsz : 0 ≤ sz ∧ sz ≤ 20 := by rw [esz]; unfold sizeZ; split <;> omega
            rw [← esz] at k7
            refine g_imul (pc := 351) hX dL_law_351 ?_
            refine g_aload_n (pc := 352) hX 3 rfl dL_law_352 ?_
            refine g_iconst (pc := 353) hX dL_law_353 ?_
            refine g_callD (pc := 354) (As := [vI (4)]) (st2 := [vI (2 * sz), vI (1)]) hX hA3.N hA3.e (q_setting hA3 (i := 4) (by omega) (by omega)) gL_law_X6_setting (n := 1) (hw := rfl) (hrc := rfl) (hrs := rfl) (hd := by decide +kernel) (hR := ⟨Nat.le_of_ble_eq_true rfl, Nat.le_of_ble_eq_true rfl⟩) (hn := rfl) (hst := rfl) (hsum := Nat.le_of_ble_eq_true rfl) (hdg := dL_law_354) ?_
            rintro _ S9 ⟨rfl, e9⟩
            rw [e9]
            clear e9 S9
            refine g_at (pc2 := 357) rfl rfl (st2 := [vI (sF D3 4), vI (2 * sz), vI (1)]) rfl (S2 := S294) rfl ?_
            refine g_icmp_gt (pc := 357) (tgt := 364) hX (by first | assumption | exact inI_mk (by omega) (by omega)) (by first | assumption | exact inI_mk (by omega) (by omega)) dL_law_357 (by decide) (fun c_357 => ?_) (fun c_357 => ?_)
            · skip
              rw [k7, decide_eq_false (by omega)] at c_334
              exact absurd c_334 (by decide)
            · skip
              refine g_iconst (pc := 360) hX dL_law_360 ?_
              refine g_goto (pc := 361) (tgt := 365) hX dL_law_361 (by decide) ?_
              refine g_icmp_ne (pc := 365) (tgt := 372) hX (by first | assumption | exact inI_mk (by omega) (by omega)) (by first | assumption | exact inI_mk (by omega) (by omega)) dL_law_365 (by decide) (fun c_365 => ?_) (fun c_365 => ?_)
              · skip
                exact absurd c_365 (by omega)
              · skip
                refine g_iconst (pc := 368) hX dL_law_368 ?_
                refine g_goto (pc := 369) (tgt := 373) hX dL_law_369 (by decide) ?_
                refine g_istore (pc := 373) hX (lv2 := [(8, vI (1)), (13, vI (scRaw (sF D3) (sG D3))), (12, vI (ld)), (0, .ref b), (1, .ref (gw_ad w 0)), (2, vI (snP D)), (3, vI (snN D)), (4, vI (snR D)), (5, vI (k)), (6, vI (q)), (7, vI (a)), (9, vI (how)), (10, vL (fpZ D))]) (by decide) rfl dL_law_373 ?_
                refine g_sub (lv2 := [(0, .ref b), (1, .ref (gw_ad w 0)), (2, vI (snP D)), (3, vI (snN D)), (4, vI (snR D)), (5, vI (k)), (7, vI (a)), (8, vI (1))]) [3, 4, 5, 6, 7, 8, 10, 0] rfl ?_
                exact j375  
  · skip
    omega

