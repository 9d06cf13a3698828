set_option maxHeartbeats 4000000 in
set_option maxRecDepth 100000 in
theorem c_L_rule {w : gW} {l : Launch} {S : Nat → va_E} {D : SD} (hA : A0 w D S) {q p : Int} :
    GM1 w l yL_rule wsL_rule { frames := 11, cells := 0, slots := 0, locals := 243 } [.ref (gw_ad w 0), vI (q), vI (p)] S
      (fun v S' => (snR D < 8 ∧ v = vI (snR D + 1) ∧ ∃ D2, A0 w D2 S' ∧ sG D2 = sG D ∧ sC D2 = sC D ∧ snP D2 = snP D ∧ snN D2 = snN D ∧ snR D2 = snR D + 1) ∨ (¬ snR D < 8 ∧ v = vI (-1000003) ∧ ∃ ty dg, 0 < ty ∧ AD w ty 5 dg D S')) := by
  refine GM.start (own := RL) (n := "rule") (d := "(LParcelDesk;II)I") (by decide) rfl (Nat.le_of_ble_eq_true rfl) ?_
  intro X hX hR hXl
  subst hXl
  refine g_at rfl (lv2 := [(0, .ref (gw_ad w 0)), (1, vI (q)), (2, vI (p))]) rfl rfl rfl ?_
  refine g_iconst (pc := 0) hX dL_rule_0 ?_
  refine g_istore_n (pc := 1) hX (lv2 := [(3, vI (0)), (0, .ref (gw_ad w 0)), (1, vI (q)), (2, vI (p))]) rfl (by decide) rfl dL_rule_1 ?_
  refine g_iconst (pc := 2) hX dL_rule_2 ?_
  refine g_iload_n (pc := 3) hX 2 rfl dL_rule_3 ?_
  refine g_iconst (pc := 4) hX dL_rule_4 ?_
  refine g_callT1 (pc := 5) (As := [vI (q), vI (2)]) (st2 := [vI (1)]) hX (c_L_up (x := q) (m := 2) (by omega) (by omega)) gL_rule_L_up (n := 2) (hw := rfl) (hrc := rfl) (hrs := rfl) (hd := by decide +kernel) (hR := ⟨Nat.le_of_ble_eq_true rfl, Nat.le_of_ble_eq_true rfl⟩) (hn := rfl) (hst := rfl) (hsum := Nat.le_of_ble_eq_true rfl) (hdg := dL_rule_5) ?_
  rintro _ S9 ⟨rfl, e9⟩
  rw [e9]
  clear e9 S9
  refine g_at (pc2 := 8) rfl rfl (st2 := [vI (upZ q 2), vI (1)]) rfl (S2 := S) rfl ?_
  refine g_iadd (pc := 8) hX dL_rule_8 ?_
  obtain ⟨tm, etm⟩ : ∃ z : Int, z = 1 + (upZ q 2) := ⟨_, rfl⟩
  refine g_at rfl rfl (st2 := [vI (tm)]) (by rw [etm]) rfl ?_
  have htm : 1 ≤ tm ∧ tm ≤ 2 := by have := upZ_b q (m := 2) (by decide); omega
  refine g_istore (pc := 9) hX (lv2 := [(4, vI (tm)), (3, vI (0)), (0, .ref (gw_ad w 0)), (1, vI (q)), (2, vI (p))]) (by decide) rfl dL_rule_9 ?_
  refine g_iconst (pc := 11) hX dL_rule_11 ?_
  refine g_istore (pc := 12) hX (lv2 := [(5, vI (0)), (4, vI (tm)), (3, vI (0)), (0, .ref (gw_ad w 0)), (1, vI (q)), (2, vI (p))]) (by decide) rfl dL_rule_12 ?_
  have lp : ∀ (n0 : Nat) (k : Int) (Sk : Nat → va_E) (ty : Int) (pl : Int) (dg : Int), 0 ≤ k → k ≤ tm → tm - k < n0 → (AD w ty pl dg D Sk) → (ty ≤ 7 * (k) ∧ ((k = 0 ∧ pl = 0) ∨ (1 ≤ k ∧ pl = 2 ∧ 1 ≤ dg ∧ dg ≤ 3))) → G w { frames := 11, cells := 0, slots := 0, locals := 243 } X 8 14 [(0, .ref (gw_ad w 0)), (1, vI (q)), (2, vI (p)), (4, vI (tm)), (5, vI (k))] [] Sk := by
    intro n0
    induction n0 with
    | zero => intro k Sk ty pl dg h1k h2k h3k; exact absurd h3k (by omega)
    | succ n0 ihlp =>
      intro k Sk ty pl dg h1k h2k h3k hAk hty
      refine g_iload (pc := 14) hX 4 rfl dL_rule_14 ?_
      refine g_iload (pc := 16) hX 3 rfl dL_rule_16 ?_
      refine g_icmp_ge (pc := 18) (tgt := 230) hX (by first | assumption | exact inI_mk (by omega) (by omega)) (by first | assumption | exact inI_mk (by omega) (by omega)) dL_rule_18 (by decide) (fun c_18 => ?_) (fun c_18 => ?_)
      · skip
        have hty0 := hAk.ty
        obtain ⟨-, hpl, hd1, hd3⟩ := hty.2.resolve_left (fun h => by omega)
        subst hpl
        refine g_aload_n (pc := 230) hX 0 rfl dL_rule_230 ?_
        refine g_bipush (pc := 231) hX (by decide) dL_rule_231 ?_
        refine g_callD (pc := 233) (As := [vI (63)]) (st2 := []) hX hAk.N hAk.e (q_type hAk (c := 63) ⟨by omega, by omega⟩ (by omega) (stp_q hd1 0)) gL_rule_X6_type (n := 1) (hw := rfl) (hrc := rfl) (hrs := rfl) (hd := by decide +kernel) (hR := ⟨Nat.le_of_ble_eq_true rfl, Nat.le_of_ble_eq_true rfl⟩) (hn := rfl) (hst := rfl) (hsum := Nat.le_of_ble_eq_true rfl) (hdg := dL_rule_233) ?_
        rintro _ S233 ⟨rfl, hA233⟩
        refine g_at (pc2 := 236) rfl rfl (st2 := [vI (ty + 1)]) rfl (S2 := S233) rfl ?_
        have j262 : ∀ (oc : Int), (oc = 43 ∨ oc = 45 ∨ oc = 42) → G w { frames := 11, cells := 0, slots := 0, locals := 243 } X 8 262 [(0, .ref (gw_ad w 0)), (1, vI (q)), (2, vI (p))] [vI (oc), .ref (gw_ad w 0), vI (ty + 1)] S233 := by
          intro oc hoc
          refine g_callD (pc := 262) (As := [vI (oc)]) (st2 := [vI (ty + 1)]) hX hA233.N hA233.e (q_type hA233 (c := oc) ⟨by omega, by omega⟩ (by omega) (stp_chg hoc _)) gL_rule_X6_type (n := 1) (hw := rfl) (hrc := rfl) (hrs := rfl) (hd := by decide +kernel) (hR := ⟨Nat.le_of_ble_eq_true rfl, Nat.le_of_ble_eq_true rfl⟩) (hn := rfl) (hst := rfl) (hsum := Nat.le_of_ble_eq_true rfl) (hdg := dL_rule_262) ?_
          rintro _ S262 ⟨rfl, hA262⟩
          refine g_at (pc2 := 265) rfl rfl (st2 := [vI (ty + 1 + 1), vI (ty + 1)]) rfl (S2 := S262) rfl ?_
          refine g_iadd (pc := 265) hX dL_rule_265 ?_
          refine g_istore_n (pc := 266) hX (lv2 := [(3, vI ((ty + 1) + (ty + 1 + 1))), (0, .ref (gw_ad w 0)), (1, vI (q)), (2, vI (p))]) rfl (by decide) rfl dL_rule_266 ?_
          refine g_aload_n (pc := 267) hX 1 rfl dL_rule_267 ?_
          refine g_bipush (pc := 268) hX (by decide) dL_rule_268 ?_
          refine g_iload_n (pc := 270) hX 3 rfl dL_rule_270 ?_
          refine g_bipush (pc := 271) hX (by decide) dL_rule_271 ?_
          refine g_ishr (pc := 273) hX dL_rule_273 ?_
          refine g_bipush (pc := 274) hX (by decide) dL_rule_274 ?_
          refine g_callT1 (pc := 276) (As := [vI (shrZ p 8), vI (9)]) (st2 := [vI (49), .ref (gw_ad w 0)]) hX (c_L_up (x := shrZ p 8) (m := 9) (by omega) (by omega)) gL_rule_L_up (n := 2) (hw := rfl) (hrc := rfl) (hrs := rfl) (hd := by decide +kernel) (hR := ⟨Nat.le_of_ble_eq_true rfl, Nat.le_of_ble_eq_true rfl⟩) (hn := rfl) (hst := rfl) (hsum := Nat.le_of_ble_eq_true rfl) (hdg := dL_rule_276) ?_
          rintro _ S9 ⟨rfl, e9⟩
          rw [e9]
          clear e9 S9
          refine g_at (pc2 := 279) rfl rfl (st2 := [vI (upZ (shrZ p 8) 9), vI (49), .ref (gw_ad w 0)]) rfl (S2 := S262) rfl ?_
          obtain ⟨d5, ed5⟩ : ∃ z : Int, z = upZ (shrZ p 8) 9 := ⟨_, rfl⟩
          refine g_at rfl rfl (st2 := [vI (d5), vI (49), .ref (gw_ad w 0)]) (by rw [ed5]) rfl ?_
          have hd5b : 0 ≤ d5 ∧ d5 < 9 := by rw [ed5]; exact upZ_b _ (by decide)
          refine g_iadd (pc := 279) hX dL_rule_279 ?_
          refine g_callD (pc := 280) (As := [vI (49 + d5)]) (st2 := []) hX hA262.N hA262.e (q_type hA262 (c := 49 + d5) ⟨by omega, by omega⟩ (by omega) (stp_dig5 (by omega) (by omega) (by decide))) gL_rule_X6_type (n := 1) (hw := rfl) (hrc := rfl) (hrs := rfl) (hd := by decide +kernel) (hR := ⟨Nat.le_of_ble_eq_true rfl, Nat.le_of_ble_eq_true rfl⟩) (hn := rfl) (hst := rfl) (hsum := Nat.le_of_ble_eq_true rfl) (hdg := dL_rule_280) ?_
          rintro _ S280 ⟨rfl, hA280⟩
          refine g_at (pc2 := 283) rfl rfl (st2 := [vI (ty + 1 + 1 + 1)]) rfl (S2 := S280) rfl ?_
          refine g_aload_n (pc := 283) hX 1 rfl dL_rule_283 ?_
          refine g_bipush (pc := 284) hX (by decide) dL_rule_284 ?_
          refine g_iload_n (pc := 286) hX 3 rfl dL_rule_286 ?_
          refine g_bipush (pc := 287) hX (by decide) dL_rule_287 ?_
          refine g_ishr (pc := 289) hX dL_rule_289 ?_
          refine g_bipush (pc := 290) hX (by decide) dL_rule_290 ?_
          refine g_callT1 (pc := 292) (As := [vI (shrZ p 12), vI (10)]) (st2 := [vI (48), .ref (gw_ad w 0), vI (ty + 1 + 1 + 1)]) hX (c_L_up (x := shrZ p 12) (m := 10) (by omega) (by omega)) gL_rule_L_up (n := 2) (hw := rfl) (hrc := rfl) (hrs := rfl) (hd := by decide +kernel) (hR := ⟨Nat.le_of_ble_eq_true rfl, Nat.le_of_ble_eq_true rfl⟩) (hn := rfl) (hst := rfl) (hsum := Nat.le_of_ble_eq_true rfl) (hdg := dL_rule_292) ?_
          rintro _ S9 ⟨rfl, e9⟩
          rw [e9]
          clear e9 S9
          refine g_at (pc2 := 295) rfl rfl (st2 := [vI (upZ (shrZ p 12) 10), vI (48), .ref (gw_ad w 0), vI (ty + 1 + 1 + 1)]) rfl (S2 := S280) rfl ?_
          obtain ⟨d6, ed6⟩ : ∃ z : Int, z = upZ (shrZ p 12) 10 := ⟨_, rfl⟩
          refine g_at rfl rfl (st2 := [vI (d6), vI (48), .ref (gw_ad w 0), vI (ty + 1 + 1 + 1)]) (by rw [ed6]) rfl ?_
          have hd6b : 0 ≤ d6 ∧ d6 < 10 := by rw [ed6]; exact upZ_b _ (by decide)
          refine g_iadd (pc := 295) hX dL_rule_295 ?_
          refine g_callD (pc := 296) (As := [vI (48 + d6)]) (st2 := [vI (ty + 1 + 1 + 1)]) hX hA280.N hA280.e (q_type hA280 (c := 48 + d6) ⟨by omega, by omega⟩ (by omega) (stp_dig5 (by omega) (by omega) (by decide))) gL_rule_X6_type (n := 1) (hw := rfl) (hrc := rfl) (hrs := rfl) (hd := by decide +kernel) (hR := ⟨Nat.le_of_ble_eq_true rfl, Nat.le_of_ble_eq_true rfl⟩) (hn := rfl) (hst := rfl) (hsum := Nat.le_of_ble_eq_true rfl) (hdg := dL_rule_296) ?_
          rintro _ S296 ⟨rfl, hA296⟩
          refine g_at (pc2 := 299) rfl rfl (st2 := [vI (ty + 1 + 1 + 1 + 1), vI (ty + 1 + 1 + 1)]) rfl (S2 := S296) rfl ?_
          refine g_iadd (pc := 299) hX dL_rule_299 ?_
          refine g_aload_n (pc := 300) hX 1 rfl dL_rule_300 ?_
          refine g_bipush (pc := 301) hX (by decide) dL_rule_301 ?_
          refine g_callD (pc := 303) (As := [vI (53)]) (st2 := [vI ((ty + 1 + 1 + 1) + (ty + 1 + 1 + 1 + 1))]) hX hA296.N hA296.e (q_type hA296 (c := 53) ⟨by omega, by omega⟩ (by omega) (stp_dig5 (by decide) (by decide) (by decide))) gL_rule_X6_type (n := 1) (hw := rfl) (hrc := rfl) (hrs := rfl) (hd := by decide +kernel) (hR := ⟨Nat.le_of_ble_eq_true rfl, Nat.le_of_ble_eq_true rfl⟩) (hn := rfl) (hst := rfl) (hsum := Nat.le_of_ble_eq_true rfl) (hdg := dL_rule_303) ?_
          rintro _ S303 ⟨rfl, hA303⟩
          refine g_at (pc2 := 306) rfl rfl (st2 := [vI (ty + 1 + 1 + 1 + 1 + 1), vI ((ty + 1 + 1 + 1) + (ty + 1 + 1 + 1 + 1))]) rfl (S2 := S303) rfl ?_
          refine g_iadd (pc := 306) hX dL_rule_306 ?_
          refine g_istore_n (pc := 307) hX (lv2 := [(3, vI (((ty + 1 + 1 + 1) + (ty + 1 + 1 + 1 + 1)) + (ty + 1 + 1 + 1 + 1 + 1))), (0, .ref (gw_ad w 0)), (1, vI (q)), (2, vI (p))]) rfl (by decide) rfl dL_rule_307 ?_
          by_cases h8 : snR D < 8
          · skip
            refine g_aload_n (pc := 308) hX 1 rfl dL_rule_308 ?_
            refine g_callD (pc := 309) (As := []) (st2 := []) hX hA303.N hA303.e (q_rule hA303 (by decide) h8) gL_rule_X6_rule (n := 0) (hw := rfl) (hrc := rfl) (hrs := rfl) (hd := by decide +kernel) (hR := ⟨Nat.le_of_ble_eq_true rfl, Nat.le_of_ble_eq_true rfl⟩) (hn := rfl) (hst := rfl) (hsum := Nat.le_of_ble_eq_true rfl) (hdg := dL_rule_309) ?_
            rintro _ S309 ⟨rfl, D2, hA309, e1, e2, e3, e4, e5⟩
            refine g_at (pc2 := 312) rfl rfl (st2 := [vI (snR D + 1)]) rfl (S2 := S309) rfl ?_
            refine g_iret (pc := 312) hX hR dL_rule_312 ?_
            exact Or.inl ⟨h8, rfl, D2, hA309, e1, e2, e3, e4, e5⟩
          · skip
            refine g_aload_n (pc := 308) hX 1 rfl dL_rule_308 ?_
            refine g_callD (pc := 309) (As := []) (st2 := []) hX hA303.N hA303.e (f_rule hA303 (by decide) h8) gL_rule_X6_rule (n := 0) (hw := rfl) (hrc := rfl) (hrs := rfl) (hd := by decide +kernel) (hR := ⟨Nat.le_of_ble_eq_true rfl, Nat.le_of_ble_eq_true rfl⟩) (hn := rfl) (hst := rfl) (hsum := Nat.le_of_ble_eq_true rfl) (hdg := dL_rule_309) ?_
            rintro _ S309 ⟨rfl, hA309⟩
            refine g_at (pc2 := 312) rfl rfl (st2 := [vI (-1000003)]) rfl (S2 := S309) rfl ?_
            refine g_iret (pc := 312) hX hR dL_rule_312 ?_
            exact Or.inr ⟨h8, rfl, _, _, by omega, hA309⟩
        refine g_aload_n (pc := 236) hX 0 rfl dL_rule_236 ?_
        refine g_iload_n (pc := 237) hX 2 rfl dL_rule_237 ?_
        refine g_iconst (pc := 238) hX dL_rule_238 ?_
        refine g_iandZ (pc := 239) hX dL_rule_239 ?_
        refine g_if_ne (pc := 240) (tgt := 248) hX (andZ_in _ _) dL_rule_240 (by decide) (fun c_240 => ?_) (fun c_240 => ?_)
        · skip
          refine g_iload_n (pc := 248) hX 2 rfl dL_rule_248 ?_
          refine g_iconst (pc := 249) hX dL_rule_249 ?_
          refine g_iandZ (pc := 250) hX dL_rule_250 ?_
          refine g_iconst (pc := 251) hX dL_rule_251 ?_
          refine g_icmp_ne (pc := 252) (tgt := 260) hX (andZ_in _ _) (by first | assumption | exact inI_mk (by omega) (by omega)) dL_rule_252 (by decide) (fun c_252 => ?_) (fun c_252 => ?_)
          · skip
            refine g_bipush (pc := 260) hX (by decide) dL_rule_260 ?_
            refine g_sub (lv2 := [(0, .ref (gw_ad w 0)), (1, vI (q)), (2, vI (p))]) [0, 1, 2] rfl ?_
            exact j262 (43) (by decide)
          · skip
            refine g_bipush (pc := 255) hX (by decide) dL_rule_255 ?_
            refine g_goto (pc := 257) (tgt := 262) hX dL_rule_257 (by decide) ?_
            refine g_sub (lv2 := [(0, .ref (gw_ad w 0)), (1, vI (q)), (2, vI (p))]) [0, 1, 2] rfl ?_
            exact j262 (42) (by decide)
        · skip
          refine g_bipush (pc := 243) hX (by decide) dL_rule_243 ?_
          refine g_goto (pc := 245) (tgt := 262) hX dL_rule_245 (by decide) ?_
          refine g_sub (lv2 := [(0, .ref (gw_ad w 0)), (1, vI (q)), (2, vI (p))]) [0, 1, 2] rfl ?_
          exact j262 (45) (by decide)
      · skip
        have hty0 := hAk.ty
        refine g_iload_n (pc := 21) hX 1 rfl dL_rule_21 ?_
        refine g_iconst (pc := 22) hX dL_rule_22 ?_
        refine g_bipush (pc := 23) hX (by decide) dL_rule_23 ?_
        refine g_iload (pc := 25) hX 4 rfl dL_rule_25 ?_
        refine g_imul (pc := 27) hX dL_rule_27 ?_
        refine g_iadd (pc := 28) hX dL_rule_28 ?_
        refine g_ishr (pc := 29) hX dL_rule_29 ?_
        obtain ⟨cq, ecq⟩ : ∃ z : Int, z = shrZ q (4 + (9 * k)) := ⟨_, rfl⟩
        refine g_at rfl rfl (st2 := [vI (cq)]) (by rw [ecq]) rfl ?_
        refine g_istore (pc := 30) hX (lv2 := [(6, vI (cq)), (0, .ref (gw_ad w 0)), (1, vI (q)), (2, vI (p)), (4, vI (tm)), (5, vI (k))]) (by decide) rfl dL_rule_30 ?_
        have j223 : ∀ (n6 : Int) (S6 : Nat → va_E) (ty6 : Int) (dg6 : Int), (AD w ty6 2 dg6 D S6) → (ty6 ≤ 7 * k + 7 ∧ 1 ≤ dg6 ∧ dg6 ≤ 3) → G w { frames := 11, cells := 0, slots := 0, locals := 243 } X 8 223 [(0, .ref (gw_ad w 0)), (1, vI (q)), (2, vI (p)), (4, vI (tm)), (5, vI (k)), (6, vI (cq))] [vI (n6)] S6 := by
          intro n6 S6 ty6 dg6 hA6 ht6
          refine g_istore_n (pc := 223) hX (lv2 := [(3, vI (n6)), (0, .ref (gw_ad w 0)), (1, vI (q)), (2, vI (p)), (4, vI (tm)), (5, vI (k)), (6, vI (cq))]) rfl (by decide) rfl dL_rule_223 ?_
          refine g_iinc (pc := 224) hX (lv2 := [(5, vI (k + 1)), (3, vI (n6)), (0, .ref (gw_ad w 0)), (1, vI (q)), (2, vI (p)), (4, vI (tm)), (6, vI (cq))]) 5 rfl (by decide) rfl dL_rule_224 ?_
          refine g_goto (pc := 227) (tgt := 14) hX dL_rule_227 (by decide) ?_
          refine g_sub (lv2 := [(0, .ref (gw_ad w 0)), (1, vI (q)), (2, vI (p)), (4, vI (tm)), (5, vI (k + 1))]) [2, 3, 4, 5, 0] rfl ?_
          refine g_at rfl (lv2 := [(0, .ref (gw_ad w 0)), (1, vI (q)), (2, vI (p)), (4, vI (tm)), (5, vI (k + 1))]) (rfl) rfl (S2 := S6) (rfl) ?_
          exact ihlp (k + 1) (_) (_) (_) (_) (by omega) (by omega) (by omega) (hA6) (⟨by omega, Or.inr ⟨by omega, rfl, by omega, by omega⟩⟩)
        have j78 : ∀ (n2 : Int) (S2 : Nat → va_E) (ty2 : Int) (dg2 : Int), (AD w ty2 0 dg2 D S2) → (ty2 ≤ ty + 2) → G w { frames := 11, cells := 0, slots := 0, locals := 243 } X 8 78 [(0, .ref (gw_ad w 0)), (1, vI (q)), (2, vI (p)), (4, vI (tm)), (5, vI (k)), (6, vI (cq))] [vI (n2)] S2 := by
          intro n2 S2 ty2 dg2 hA2 ht2
          have hty2 := hA2.ty
          refine g_istore_n (pc := 78) hX (lv2 := [(3, vI (n2)), (0, .ref (gw_ad w 0)), (1, vI (q)), (2, vI (p)), (4, vI (tm)), (5, vI (k)), (6, vI (cq))]) rfl (by decide) rfl dL_rule_78 ?_
          refine g_iload (pc := 79) hX 6 rfl dL_rule_79 ?_
          refine g_iconst (pc := 81) hX dL_rule_81 ?_
          refine g_ishr (pc := 82) hX dL_rule_82 ?_
          refine g_bipush (pc := 83) hX (by decide) dL_rule_83 ?_
          refine g_callT1 (pc := 85) (As := [vI (shrZ cq 3), vI (6)]) (st2 := []) hX (c_L_up (x := shrZ cq 3) (m := 6) (by omega) (by omega)) gL_rule_L_up (n := 2) (hw := rfl) (hrc := rfl) (hrs := rfl) (hd := by decide +kernel) (hR := ⟨Nat.le_of_ble_eq_true rfl, Nat.le_of_ble_eq_true rfl⟩) (hn := rfl) (hst := rfl) (hsum := Nat.le_of_ble_eq_true rfl) (hdg := dL_rule_85) ?_
          rintro _ S9 ⟨rfl, e9⟩
          rw [e9]
          clear e9 S9
          refine g_at (pc2 := 88) rfl rfl (st2 := [vI (upZ (shrZ cq 3) 6)]) rfl (S2 := S2) rfl ?_
          obtain ⟨ff, eff⟩ : ∃ z : Int, z = upZ (shrZ cq 3) 6 := ⟨_, rfl⟩
          refine g_at rfl rfl (st2 := [vI (ff)]) (by rw [eff]) rfl ?_
          have hff : 0 ≤ ff ∧ ff < 6 := by have := upZ_b (shrZ cq 3) (m := 6) (by decide); omega
          refine g_istore (pc := 88) hX (lv2 := [(7, vI (ff)), (3, vI (n2)), (0, .ref (gw_ad w 0)), (1, vI (q)), (2, vI (p)), (4, vI (tm)), (5, vI (k)), (6, vI (cq))]) (by decide) rfl dL_rule_88 ?_
          have j147 : ∀ (ch : Int), (0 ≤ letZ ch ∧ ch ≠ 126 ∧ ch ≠ 40 ∧ 32 ≤ ch ∧ ch ≤ 126) → G w { frames := 11, cells := 0, slots := 0, locals := 243 } X 8 147 [(0, .ref (gw_ad w 0)), (1, vI (q)), (2, vI (p)), (4, vI (tm)), (5, vI (k)), (6, vI (cq)), (7, vI (ff))] [vI (ch), .ref (gw_ad w 0)] S2 := by
            intro ch hch
            refine g_callD (pc := 147) (As := [vI (ch)]) (st2 := []) hX hA2.N hA2.e (q_type hA2 (c := ch) ⟨by omega, by omega⟩ (by omega) (stp_let hch.1 hch.2.1 hch.2.2.1 _ 0)) gL_rule_X6_type (n := 1) (hw := rfl) (hrc := rfl) (hrs := rfl) (hd := by decide +kernel) (hR := ⟨Nat.le_of_ble_eq_true rfl, Nat.le_of_ble_eq_true rfl⟩) (hn := rfl) (hst := rfl) (hsum := Nat.le_of_ble_eq_true rfl) (hdg := dL_rule_147) ?_
            rintro _ S147 ⟨rfl, hA147⟩
            refine g_at (pc2 := 150) rfl rfl (st2 := [vI (ty2 + 1)]) rfl (S2 := S147) rfl ?_
            refine g_istore_n (pc := 150) hX (lv2 := [(3, vI (ty2 + 1)), (0, .ref (gw_ad w 0)), (1, vI (q)), (2, vI (p)), (4, vI (tm)), (5, vI (k)), (6, vI (cq)), (7, vI (ff))]) rfl (by decide) rfl dL_rule_150 ?_
            have j168 : ∀ (rc : Int), (rc = 60 ∨ rc = 62) → G w { frames := 11, cells := 0, slots := 0, locals := 243 } X 8 168 [(0, .ref (gw_ad w 0)), (1, vI (q)), (2, vI (p)), (4, vI (tm)), (5, vI (k)), (6, vI (cq)), (7, vI (ff))] [vI (rc), .ref (gw_ad w 0)] S147 := by
              intro rc hrc
              refine g_callD (pc := 168) (As := [vI (rc)]) (st2 := []) hX hA147.N hA147.e (q_type hA147 (c := rc) ⟨by omega, by omega⟩ (by omega) (stp_rel (by unfold relZ; rcases hrc with e | e <;> rw [e] <;> decide) _)) gL_rule_X6_type (n := 1) (hw := rfl) (hrc := rfl) (hrs := rfl) (hd := by decide +kernel) (hR := ⟨Nat.le_of_ble_eq_true rfl, Nat.le_of_ble_eq_true rfl⟩) (hn := rfl) (hst := rfl) (hsum := Nat.le_of_ble_eq_true rfl) (hdg := dL_rule_168) ?_
              rintro _ S168 ⟨rfl, hA168⟩
              refine g_at (pc2 := 171) rfl rfl (st2 := [vI (ty2 + 1 + 1)]) rfl (S2 := S168) rfl ?_
              refine g_istore_n (pc := 171) hX (lv2 := [(3, vI (ty2 + 1 + 1)), (0, .ref (gw_ad w 0)), (1, vI (q)), (2, vI (p)), (4, vI (tm)), (5, vI (k)), (6, vI (cq)), (7, vI (ff))]) rfl (by decide) rfl dL_rule_171 ?_
              refine g_aload_n (pc := 172) hX 1 rfl dL_rule_172 ?_
              refine g_bipush (pc := 173) hX (by decide) dL_rule_173 ?_
              refine g_iload_n (pc := 175) hX 3 rfl dL_rule_175 ?_
              refine g_iconst (pc := 176) hX dL_rule_176 ?_
              refine g_iload (pc := 177) hX 5 rfl dL_rule_177 ?_
              refine g_imul (pc := 179) hX dL_rule_179 ?_
              refine g_ishr (pc := 180) hX dL_rule_180 ?_
              refine g_bipush (pc := 181) hX (by decide) dL_rule_181 ?_
              refine g_callT1 (pc := 183) (As := [vI (shrZ p (3 * k)), vI (10)]) (st2 := [vI (48), .ref (gw_ad w 0)]) hX (c_L_up (x := shrZ p (3 * k)) (m := 10) (by omega) (by omega)) gL_rule_L_up (n := 2) (hw := rfl) (hrc := rfl) (hrs := rfl) (hd := by decide +kernel) (hR := ⟨Nat.le_of_ble_eq_true rfl, Nat.le_of_ble_eq_true rfl⟩) (hn := rfl) (hst := rfl) (hsum := Nat.le_of_ble_eq_true rfl) (hdg := dL_rule_183) ?_
              rintro _ S9 ⟨rfl, e9⟩
              rw [e9]
              clear e9 S9
              refine g_at (pc2 := 186) rfl rfl (st2 := [vI (upZ (shrZ p (3 * k)) 10), vI (48), .ref (gw_ad w 0)]) rfl (S2 := S168) rfl ?_
              obtain ⟨d1, ed1⟩ : ∃ z : Int, z = upZ (shrZ p (3 * k)) 10 := ⟨_, rfl⟩
              refine g_at rfl rfl (st2 := [vI (d1), vI (48), .ref (gw_ad w 0)]) (by rw [ed1]) rfl ?_
              have hd1b : 0 ≤ d1 ∧ d1 < 10 := by rw [ed1]; exact upZ_b _ (by decide)
              refine g_iadd (pc := 186) hX dL_rule_186 ?_
              refine g_callD (pc := 187) (As := [vI (48 + d1)]) (st2 := []) hX hA168.N hA168.e (q_type hA168 (c := 48 + d1) ⟨by omega, by omega⟩ (by omega) (stp_dig (by omega) (by omega) (by decide))) gL_rule_X6_type (n := 1) (hw := rfl) (hrc := rfl) (hrs := rfl) (hd := by decide +kernel) (hR := ⟨Nat.le_of_ble_eq_true rfl, Nat.le_of_ble_eq_true rfl⟩) (hn := rfl) (hst := rfl) (hsum := Nat.le_of_ble_eq_true rfl) (hdg := dL_rule_187) ?_
              rintro _ S187 ⟨rfl, hA187⟩
              refine g_at (pc2 := 190) rfl rfl (st2 := [vI (ty2 + 1 + 1 + 1)]) rfl (S2 := S187) rfl ?_
              refine g_istore_n (pc := 190) hX (lv2 := [(3, vI (ty2 + 1 + 1 + 1)), (0, .ref (gw_ad w 0)), (1, vI (q)), (2, vI (p)), (4, vI (tm)), (5, vI (k)), (6, vI (cq)), (7, vI (ff))]) rfl (by decide) rfl dL_rule_190 ?_
              refine g_iload (pc := 191) hX 7 rfl dL_rule_191 ?_
              refine g_iconst (pc := 193) hX dL_rule_193 ?_
              refine g_icmp_ge (pc := 194) (tgt := 222) hX (by first | assumption | exact inI_mk (by omega) (by omega)) (by first | assumption | exact inI_mk (by omega) (by omega)) dL_rule_194 (by decide) (fun c_194 => ?_) (fun c_194 => ?_)
              · skip
                refine g_iconst (pc := 222) hX dL_rule_222 ?_
                refine g_sub (lv2 := [(0, .ref (gw_ad w 0)), (1, vI (q)), (2, vI (p)), (4, vI (tm)), (5, vI (k)), (6, vI (cq))]) [1, 2, 3, 4, 5, 6] rfl ?_
                exact j223 (0) (_) (_) (_) (hA187) (⟨by omega, by decide, by decide⟩)
              · skip
                refine g_aload_n (pc := 197) hX 1 rfl dL_rule_197 ?_
                refine g_bipush (pc := 198) hX (by decide) dL_rule_198 ?_
                refine g_iload_n (pc := 200) hX 3 rfl dL_rule_200 ?_
                refine g_iconst (pc := 201) hX dL_rule_201 ?_
                refine g_ishr (pc := 202) hX dL_rule_202 ?_
                refine g_bipush (pc := 203) hX (by decide) dL_rule_203 ?_
                refine g_callT1 (pc := 205) (As := [vI (shrZ p 4), vI (10)]) (st2 := [vI (48), .ref (gw_ad w 0)]) hX (c_L_up (x := shrZ p 4) (m := 10) (by omega) (by omega)) gL_rule_L_up (n := 2) (hw := rfl) (hrc := rfl) (hrs := rfl) (hd := by decide +kernel) (hR := ⟨Nat.le_of_ble_eq_true rfl, Nat.le_of_ble_eq_true rfl⟩) (hn := rfl) (hst := rfl) (hsum := Nat.le_of_ble_eq_true rfl) (hdg := dL_rule_205) ?_
                rintro _ S9 ⟨rfl, e9⟩
                rw [e9]
                clear e9 S9
                refine g_at (pc2 := 208) rfl rfl (st2 := [vI (upZ (shrZ p 4) 10), vI (48), .ref (gw_ad w 0)]) rfl (S2 := S187) rfl ?_
                obtain ⟨d2, ed2⟩ : ∃ z : Int, z = upZ (shrZ p 4) 10 := ⟨_, rfl⟩
                refine g_at rfl rfl (st2 := [vI (d2), vI (48), .ref (gw_ad w 0)]) (by rw [ed2]) rfl ?_
                have hd2b : 0 ≤ d2 ∧ d2 < 10 := by rw [ed2]; exact upZ_b _ (by decide)
                refine g_iadd (pc := 208) hX dL_rule_208 ?_
                refine g_callD (pc := 209) (As := [vI (48 + d2)]) (st2 := []) hX hA187.N hA187.e (q_type hA187 (c := 48 + d2) ⟨by omega, by omega⟩ (by omega) (stp_dig (by omega) (by omega) (by decide))) gL_rule_X6_type (n := 1) (hw := rfl) (hrc := rfl) (hrs := rfl) (hd := by decide +kernel) (hR := ⟨Nat.le_of_ble_eq_true rfl, Nat.le_of_ble_eq_true rfl⟩) (hn := rfl) (hst := rfl) (hsum := Nat.le_of_ble_eq_true rfl) (hdg := dL_rule_209) ?_
                rintro _ S209 ⟨rfl, hA209⟩
                refine g_at (pc2 := 212) rfl rfl (st2 := [vI (ty2 + 1 + 1 + 1 + 1)]) rfl (S2 := S209) rfl ?_
                refine g_aload_n (pc := 212) hX 1 rfl dL_rule_212 ?_
                refine g_bipush (pc := 213) hX (by decide) dL_rule_213 ?_
                refine g_callD (pc := 215) (As := [vI (48)]) (st2 := [vI (ty2 + 1 + 1 + 1 + 1)]) hX hA209.N hA209.e (q_type hA209 (c := 48) ⟨by omega, by omega⟩ (by omega) (stp_dig (by decide) (by decide) (by decide))) gL_rule_X6_type (n := 1) (hw := rfl) (hrc := rfl) (hrs := rfl) (hd := by decide +kernel) (hR := ⟨Nat.le_of_ble_eq_true rfl, Nat.le_of_ble_eq_true rfl⟩) (hn := rfl) (hst := rfl) (hsum := Nat.le_of_ble_eq_true rfl) (hdg := dL_rule_215) ?_
                rintro _ S215 ⟨rfl, hA215⟩
                refine g_at (pc2 := 218) rfl rfl (st2 := [vI (ty2 + 1 + 1 + 1 + 1 + 1), vI (ty2 + 1 + 1 + 1 + 1)]) rfl (S2 := S215) rfl ?_
                refine g_iadd (pc := 218) hX dL_rule_218 ?_
                refine g_goto (pc := 219) (tgt := 223) hX dL_rule_219 (by decide) ?_
                refine g_sub (lv2 := [(0, .ref (gw_ad w 0)), (1, vI (q)), (2, vI (p)), (4, vI (tm)), (5, vI (k)), (6, vI (cq))]) [1, 2, 3, 4, 5, 6] rfl ?_
                exact j223 ((ty2 + 1 + 1 + 1 + 1) + (ty2 + 1 + 1 + 1 + 1 + 1)) (_) (_) (_) (hA215) (⟨by omega, by decide, by decide⟩)
            refine g_aload_n (pc := 151) hX 1 rfl dL_rule_151 ?_
            refine g_iload (pc := 152) hX 6 rfl dL_rule_152 ?_
            refine g_sipush (pc := 154) hX (by decide) dL_rule_154 ?_
            refine g_iandZ (pc := 157) hX dL_rule_157 ?_
            refine g_if_ne (pc := 158) (tgt := 166) hX (andZ_in _ _) dL_rule_158 (by decide) (fun c_158 => ?_) (fun c_158 => ?_)
            · skip
              refine g_bipush (pc := 166) hX (by decide) dL_rule_166 ?_
              refine g_sub (lv2 := [(0, .ref (gw_ad w 0)), (1, vI (q)), (2, vI (p)), (4, vI (tm)), (5, vI (k)), (6, vI (cq)), (7, vI (ff))]) [1, 2, 3, 4, 5, 6, 7] rfl ?_
              exact j168 (62) (by decide)
            · skip
              refine g_bipush (pc := 161) hX (by decide) dL_rule_161 ?_
              refine g_goto (pc := 163) (tgt := 168) hX dL_rule_163 (by decide) ?_
              refine g_sub (lv2 := [(0, .ref (gw_ad w 0)), (1, vI (q)), (2, vI (p)), (4, vI (tm)), (5, vI (k)), (6, vI (cq)), (7, vI (ff))]) [1, 2, 3, 4, 5, 6, 7] rfl ?_
              exact j168 (60) (by decide)
          refine g_aload_n (pc := 90) hX 2 rfl dL_rule_90 ?_
          refine g_iload (pc := 91) hX 0 rfl dL_rule_91 ?_
          refine g_if_ne (pc := 93) (tgt := 101) hX (by first | assumption | exact inI_mk (by omega) (by omega)) dL_rule_93 (by decide) (fun c_93 => ?_) (fun c_93 => ?_)
          · skip
            refine g_iload (pc := 101) hX 0 rfl dL_rule_101 ?_
            refine g_iconst (pc := 103) hX dL_rule_103 ?_
            refine g_icmp_ne (pc := 104) (tgt := 112) hX (by first | assumption | exact inI_mk (by omega) (by omega)) (by first | assumption | exact inI_mk (by omega) (by omega)) dL_rule_104 (by decide) (fun c_104 => ?_) (fun c_104 => ?_)
            · skip
              refine g_iload (pc := 112) hX 0 rfl dL_rule_112 ?_
              refine g_iconst (pc := 114) hX dL_rule_114 ?_
              refine g_icmp_ne (pc := 115) (tgt := 123) hX (by first | assumption | exact inI_mk (by omega) (by omega)) (by first | assumption | exact inI_mk (by omega) (by omega)) dL_rule_115 (by decide) (fun c_115 => ?_) (fun c_115 => ?_)
              · skip
                refine g_iload (pc := 123) hX 0 rfl dL_rule_123 ?_
                refine g_iconst (pc := 125) hX dL_rule_125 ?_
                refine g_icmp_ne (pc := 126) (tgt := 134) hX (by first | assumption | exact inI_mk (by omega) (by omega)) (by first | assumption | exact inI_mk (by omega) (by omega)) dL_rule_126 (by decide) (fun c_126 => ?_) (fun c_126 => ?_)
                · skip
                  refine g_iload (pc := 134) hX 0 rfl dL_rule_134 ?_
                  refine g_iconst (pc := 136) hX dL_rule_136 ?_
                  refine g_icmp_ne (pc := 137) (tgt := 145) hX (by first | assumption | exact inI_mk (by omega) (by omega)) (by first | assumption | exact inI_mk (by omega) (by omega)) dL_rule_137 (by decide) (fun c_137 => ?_) (fun c_137 => ?_)
                  · skip
                    refine g_bipush (pc := 145) hX (by decide) dL_rule_145 ?_
                    refine g_sub (lv2 := [(0, .ref (gw_ad w 0)), (1, vI (q)), (2, vI (p)), (4, vI (tm)), (5, vI (k)), (6, vI (cq)), (7, vI (ff))]) [2, 3, 4, 5, 6, 7, 0] rfl ?_
                    exact j147 (122) (⟨by decide, by decide, by decide, by decide, by decide⟩)
                  · skip
                    refine g_bipush (pc := 140) hX (by decide) dL_rule_140 ?_
                    refine g_goto (pc := 142) (tgt := 147) hX dL_rule_142 (by decide) ?_
                    refine g_sub (lv2 := [(0, .ref (gw_ad w 0)), (1, vI (q)), (2, vI (p)), (4, vI (tm)), (5, vI (k)), (6, vI (cq)), (7, vI (ff))]) [2, 3, 4, 5, 6, 7, 0] rfl ?_
                    exact j147 (108) (⟨by decide, by decide, by decide, by decide, by decide⟩)
                · skip
                  refine g_bipush (pc := 129) hX (by decide) dL_rule_129 ?_
                  refine g_goto (pc := 131) (tgt := 147) hX dL_rule_131 (by decide) ?_
                  refine g_sub (lv2 := [(0, .ref (gw_ad w 0)), (1, vI (q)), (2, vI (p)), (4, vI (tm)), (5, vI (k)), (6, vI (cq)), (7, vI (ff))]) [2, 3, 4, 5, 6, 7, 0] rfl ?_
                  exact j147 (103) (⟨by decide, by decide, by decide, by decide, by decide⟩)
              · skip
                refine g_bipush (pc := 118) hX (by decide) dL_rule_118 ?_
                refine g_goto (pc := 120) (tgt := 147) hX dL_rule_120 (by decide) ?_
                refine g_sub (lv2 := [(0, .ref (gw_ad w 0)), (1, vI (q)), (2, vI (p)), (4, vI (tm)), (5, vI (k)), (6, vI (cq)), (7, vI (ff))]) [2, 3, 4, 5, 6, 7, 0] rfl ?_
                exact j147 (118) (⟨by decide, by decide, by decide, by decide, by decide⟩)
            · skip
              refine g_bipush (pc := 107) hX (by decide) dL_rule_107 ?_
              refine g_goto (pc := 109) (tgt := 147) hX dL_rule_109 (by decide) ?_
              refine g_sub (lv2 := [(0, .ref (gw_ad w 0)), (1, vI (q)), (2, vI (p)), (4, vI (tm)), (5, vI (k)), (6, vI (cq)), (7, vI (ff))]) [2, 3, 4, 5, 6, 7, 0] rfl ?_
              exact j147 (114) (⟨by decide, by decide, by decide, by decide, by decide⟩)
          · skip
            refine g_bipush (pc := 96) hX (by decide) dL_rule_96 ?_
            refine g_goto (pc := 98) (tgt := 147) hX dL_rule_98 (by decide) ?_
            refine g_sub (lv2 := [(0, .ref (gw_ad w 0)), (1, vI (q)), (2, vI (p)), (4, vI (tm)), (5, vI (k)), (6, vI (cq)), (7, vI (ff))]) [2, 3, 4, 5, 6, 7, 0] rfl ?_
            exact j147 (119) (⟨by decide, by decide, by decide, by decide, by decide⟩)
        have j59 : ∀ (n1 : Int) (S1 : Nat → va_E) (ty1 : Int) (dg1 : Int), (AD w ty1 0 dg1 D S1) → (ty1 ≤ ty + 1) → G w { frames := 11, cells := 0, slots := 0, locals := 243 } X 8 59 [(0, .ref (gw_ad w 0)), (1, vI (q)), (2, vI (p)), (4, vI (tm)), (5, vI (k)), (6, vI (cq))] [vI (n1)] S1 := by
          intro n1 S1 ty1 dg1 hA1 ht1
          have hty1 := hA1.ty
          refine g_istore_n (pc := 59) hX (lv2 := [(3, vI (n1)), (0, .ref (gw_ad w 0)), (1, vI (q)), (2, vI (p)), (4, vI (tm)), (5, vI (k)), (6, vI (cq))]) rfl (by decide) rfl dL_rule_59 ?_
          refine g_iload (pc := 60) hX 6 rfl dL_rule_60 ?_
          refine g_bipush (pc := 62) hX (by decide) dL_rule_62 ?_
          refine g_iandZ (pc := 64) hX dL_rule_64 ?_
          refine g_if_ne (pc := 65) (tgt := 77) hX (andZ_in _ _) dL_rule_65 (by decide) (fun c_65 => ?_) (fun c_65 => ?_)
          · skip
            refine g_iconst (pc := 77) hX dL_rule_77 ?_
            refine g_sub (lv2 := [(0, .ref (gw_ad w 0)), (1, vI (q)), (2, vI (p)), (4, vI (tm)), (5, vI (k)), (6, vI (cq))]) [1, 2, 3, 4, 5, 6] rfl ?_
            exact j78 (0) (_) (_) (_) (hA1) (by omega)
          · skip
            refine g_aload_n (pc := 68) hX 1 rfl dL_rule_68 ?_
            refine g_bipush (pc := 69) hX (by decide) dL_rule_69 ?_
            refine g_callD (pc := 71) (As := [vI (126)]) (st2 := []) hX hA1.N hA1.e (q_type hA1 (c := 126) ⟨by omega, by omega⟩ (by omega) (stp_not _ 0)) gL_rule_X6_type (n := 1) (hw := rfl) (hrc := rfl) (hrs := rfl) (hd := by decide +kernel) (hR := ⟨Nat.le_of_ble_eq_true rfl, Nat.le_of_ble_eq_true rfl⟩) (hn := rfl) (hst := rfl) (hsum := Nat.le_of_ble_eq_true rfl) (hdg := dL_rule_71) ?_
            rintro _ S71 ⟨rfl, hA71⟩
            refine g_at (pc2 := 74) rfl rfl (st2 := [vI (ty1 + 1)]) rfl (S2 := S71) rfl ?_
            refine g_goto (pc := 74) (tgt := 78) hX dL_rule_74 (by decide) ?_
            refine g_sub (lv2 := [(0, .ref (gw_ad w 0)), (1, vI (q)), (2, vI (p)), (4, vI (tm)), (5, vI (k)), (6, vI (cq))]) [1, 2, 3, 4, 5, 6] rfl ?_
            exact j78 (ty1 + 1) (_) (_) (_) (hA71) (by omega)
        refine g_iload (pc := 32) hX 5 rfl dL_rule_32 ?_
        refine g_if_le (pc := 34) (tgt := 58) hX (by first | assumption | exact inI_mk (by omega) (by omega)) dL_rule_34 (by decide) (fun c_34 => ?_) (fun c_34 => ?_)
        · skip
          have hpl := (hty.2.resolve_right (fun h => by omega)).2
          subst hpl
          refine g_iconst (pc := 58) hX dL_rule_58 ?_
          refine g_sub (lv2 := [(0, .ref (gw_ad w 0)), (1, vI (q)), (2, vI (p)), (4, vI (tm)), (5, vI (k)), (6, vI (cq))]) [1, 2, 3, 4, 5, 0] rfl ?_
          exact j59 (0) (_) (_) (_) (hAk) (by omega)
        · skip
          obtain ⟨-, hpl, hd1, hd3⟩ := hty.2.resolve_left (fun h => by omega)
          subst hpl
          refine g_aload_n (pc := 37) hX 1 rfl dL_rule_37 ?_
          refine g_iload (pc := 38) hX 0 rfl dL_rule_38 ?_
          refine g_iconst (pc := 40) hX dL_rule_40 ?_
          refine g_iandZ (pc := 41) hX dL_rule_41 ?_
          refine g_if_ne (pc := 42) (tgt := 50) hX (andZ_in _ _) dL_rule_42 (by decide) (fun c_42 => ?_) (fun c_42 => ?_)
          · skip
            refine g_bipush (pc := 50) hX (by decide) dL_rule_50 ?_
            refine g_callD (pc := 52) (As := [vI (124)]) (st2 := []) hX hAk.N hAk.e (q_type hAk (c := 124) ⟨by omega, by omega⟩ (by omega) (stp_link hd1 (by omega) 0)) gL_rule_X6_type (n := 1) (hw := rfl) (hrc := rfl) (hrs := rfl) (hd := by decide +kernel) (hR := ⟨Nat.le_of_ble_eq_true rfl, Nat.le_of_ble_eq_true rfl⟩) (hn := rfl) (hst := rfl) (hsum := Nat.le_of_ble_eq_true rfl) (hdg := dL_rule_52) ?_
            rintro _ S52 ⟨rfl, hA52⟩
            refine g_at (pc2 := 55) rfl rfl (st2 := [vI (ty + 1)]) rfl (S2 := S52) rfl ?_
            refine g_goto (pc := 55) (tgt := 59) hX dL_rule_55 (by decide) ?_
            refine g_sub (lv2 := [(0, .ref (gw_ad w 0)), (1, vI (q)), (2, vI (p)), (4, vI (tm)), (5, vI (k)), (6, vI (cq))]) [1, 2, 3, 4, 5, 0] rfl ?_
            exact j59 (ty + 1) (_) (_) (_) (hA52) (by omega)
          · skip
            refine g_bipush (pc := 45) hX (by decide) dL_rule_45 ?_
            refine g_goto (pc := 47) (tgt := 52) hX dL_rule_47 (by decide) ?_
            refine g_callD (pc := 52) (As := [vI (38)]) (st2 := []) hX hAk.N hAk.e (q_type hAk (c := 38) ⟨by omega, by omega⟩ (by omega) (stp_link hd1 (by omega) 0)) gL_rule_X6_type (n := 1) (hw := rfl) (hrc := rfl) (hrs := rfl) (hd := by decide +kernel) (hR := ⟨Nat.le_of_ble_eq_true rfl, Nat.le_of_ble_eq_true rfl⟩) (hn := rfl) (hst := rfl) (hsum := Nat.le_of_ble_eq_true rfl) (hdg := dL_rule_52) ?_
            rintro _ S52 ⟨rfl, hA52⟩
            refine g_at (pc2 := 55) rfl rfl (st2 := [vI (ty + 1)]) rfl (S2 := S52) rfl ?_
            refine g_goto (pc := 55) (tgt := 59) hX dL_rule_55 (by decide) ?_
            refine g_sub (lv2 := [(0, .ref (gw_ad w 0)), (1, vI (q)), (2, vI (p)), (4, vI (tm)), (5, vI (k)), (6, vI (cq))]) [1, 2, 3, 4, 5, 0] rfl ?_
            exact j59 (ty + 1) (_) (_) (_) (hA52) (by omega)
  refine g_sub (lv2 := [(0, .ref (gw_ad w 0)), (1, vI (q)), (2, vI (p)), (4, vI (tm)), (5, vI (0))]) [3, 4, 5, 1, 0] rfl ?_
  refine g_at rfl (lv2 := [(0, .ref (gw_ad w 0)), (1, vI (q)), (2, vI (p)), (4, vI (tm)), (5, vI (0))]) (rfl) rfl (S2 := S) (rfl) ?_
  exact lp ((tm : Int) - 0 + 1).toNat 0 (_) (_) (_) (_) (by omega) (by omega) (by omega) (hA) (⟨by decide, Or.inl ⟨rfl, rfl⟩⟩)

