set_option maxHeartbeats 4000000 in
set_option maxRecDepth 100000 in
theorem law_disp {w : gW} {X : gX} {b L : Nat} {f : Nat → Int} {S : Nat → va_E} {D : SD} {k q a how : Int} (hX : gOK w room_1 X cL_law 21 RL wsL_law) (hSc : scrT w X b L f) (hL : L ≤ 260) (hf : ∀ j, inI (f j)) (hA : A0 w D S) (hk : 0 ≤ k ∧ k < 30) (hP0 : 0 < snP D) (hi : snP D ≤ k ∧ sG D 1 ≤ 3 * k)
    (hend : ∀ (D2 : SD) (S2 : Nat → va_E) (P N Q : Int), A0 w D2 S2 → P = snP D2 → N = snN D2 → Q = snR D2 → (snP D2 ≤ k + 1 ∧ sG D2 1 ≤ 3 * k + 3) → G w room_1 X 21 1488 [(8, vI 1), (0, .ref b), (1, .ref (gw_ad w 0)), (2, vI P), (3, vI N), (4, vI Q), (5, vI k)] [] S2) : G w room_1 X 21 1185 [(0, .ref b), (1, .ref (gw_ad w 0)), (2, vI (snP D)), (3, vI (snN D)), (4, vI (snR D)), (5, vI (k)), (6, vI (q)), (7, vI (a)), (8, vI (1)), (9, vI (how)), (10, vL (fpZ D))] [] S := by
  have hb := hA.b
  refine g_iload (pc := 1185) hX 7 rfl dL_law_1185 ?_
  refine g_iload_n (pc := 1187) hX 2 rfl dL_law_1187 ?_
  refine g_callT1 (pc := 1188) (As := [vI (a), vI (snP D)]) (st2 := []) hX (c_L_up (x := a) (m := snP D) (by omega) (by omega)) gL_law_L_up (n := 2) (hw := rfl) (hrc := rfl) (hrs := rfl) (hd := by decide +kernel) (hR := ⟨Nat.le_of_ble_eq_true rfl, Nat.le_of_ble_eq_true rfl⟩) (hn := rfl) (hst := rfl) (hsum := Nat.le_of_ble_eq_true rfl) (hdg := dL_law_1188) ?_
  rintro _ S9 ⟨rfl, e9⟩
  rw [e9]
  clear e9 S9
  refine g_at (pc2 := 1191) rfl rfl (st2 := [vI (upZ a (snP D))]) rfl (S2 := S) rfl ?_
  obtain ⟨p, ep⟩ : ∃ z : Int, z = upZ a (snP D) := ⟨_, rfl⟩
  refine g_at rfl rfl (st2 := [vI (p)]) (by rw [ep]) rfl ?_
  have hp : 0 ≤ p ∧ p < snP D := by rw [ep]; exact upZ_b _ (by omega)
  obtain ⟨p0, p1⟩ := hp
  have hr := hA.row p0 p1
  have hop := hA.op p
  refine g_istore (pc := 1191) hX (lv2 := [(12, vI (p)), (0, .ref b), (1, .ref (gw_ad w 0)), (2, vI (snP D)), (3, vI (snN D)), (4, vI (snR D)), (5, vI (k)), (6, vI (q)), (7, vI (a)), (8, vI (1)), (9, vI (how)), (10, vL (fpZ D))]) (by decide) rfl dL_law_1191 ?_
  refine g_aload_n (pc := 1193) hX 2 rfl dL_law_1193 ?_
  refine g_iload (pc := 1194) hX 0 rfl dL_law_1194 ?_
  refine g_bipush (pc := 1196) hX (by decide) dL_law_1196 ?_
  refine g_callD (pc := 1198) (As := [vI (p), vI (10)]) (st2 := []) hX hA.N hA.e (q_open hA (p := p) (by omega) (by omega)) gL_law_X6_parcel (n := 2) (hw := rfl) (hrc := rfl) (hrs := rfl) (hd := by decide +kernel) (hR := ⟨Nat.le_of_ble_eq_true rfl, Nat.le_of_ble_eq_true rfl⟩) (hn := rfl) (hst := rfl) (hsum := Nat.le_of_ble_eq_true rfl) (hdg := dL_law_1198) ?_
  rintro _ S9 ⟨rfl, e9⟩
  rw [e9]
  clear e9 S9
  refine g_at (pc2 := 1201) rfl rfl (st2 := [vI (openZ D p)]) rfl (S2 := S) rfl ?_
  obtain ⟨n, en⟩ : ∃ z : Int, z = openZ D p := ⟨_, rfl⟩
  refine g_at rfl rfl (st2 := [vI (n)]) (by rw [en]) rfl ?_
  rw [← en] at hop
  refine g_istore (pc := 1201) hX (lv2 := [(13, vI (n)), (12, vI (p)), (0, .ref b), (1, .ref (gw_ad w 0)), (2, vI (snP D)), (3, vI (snN D)), (4, vI (snR D)), (5, vI (k)), (6, vI (q)), (7, vI (a)), (8, vI (1)), (9, vI (how)), (10, vL (fpZ D))]) (by decide) rfl dL_law_1201 ?_
  refine g_aload_n (pc := 1203) hX 3 rfl dL_law_1203 ?_
  refine g_iload (pc := 1204) hX 1 rfl dL_law_1204 ?_
  refine g_bipush (pc := 1206) hX (by decide) dL_law_1206 ?_
  refine g_callD (pc := 1208) (As := [vI (p), vI (8)]) (st2 := []) hX hA.N hA.e (q_parcel hA (p := p) (x := 8) (by omega) (by omega) (by omega) (by omega)) gL_law_X6_parcel (n := 2) (hw := rfl) (hrc := rfl) (hrs := rfl) (hd := by decide +kernel) (hR := ⟨Nat.le_of_ble_eq_true rfl, Nat.le_of_ble_eq_true rfl⟩) (hn := rfl) (hst := rfl) (hsum := Nat.le_of_ble_eq_true rfl) (hdg := dL_law_1208) ?_
  rintro _ S9 ⟨rfl, e9⟩
  rw [e9]
  clear e9 S9
  refine g_at (pc2 := 1211) rfl rfl (st2 := [vI (sP D p 8)]) rfl (S2 := S) rfl ?_
  refine g_istore (pc := 1211) hX (lv2 := [(14, vI (sP D p 8)), (13, vI (n)), (12, vI (p)), (0, .ref b), (1, .ref (gw_ad w 0)), (2, vI (snP D)), (3, vI (snN D)), (4, vI (snR D)), (5, vI (k)), (6, vI (q)), (7, vI (a)), (8, vI (1)), (9, vI (how)), (10, vL (fpZ D))]) (by decide) rfl dL_law_1211 ?_
  refine g_iload (pc := 1213) hX 1 rfl dL_law_1213 ?_
  refine g_ldc (pc := 1215) hX (z := -1000009) (List.mem_of_getElem? (i := 3) rfl) (by decide +kernel) dL_law_1215 ?_
  refine g_icmp_ne (pc := 1217) (tgt := 1325) hX (by first | assumption | exact inI_mk (by omega) (by omega)) (by first | assumption | exact inI_mk (by omega) (by omega)) dL_law_1217 (by decide) (fun c_1217 => ?_) (fun c_1217 => ?_)
  · skip
    have ho := (hA.op p).resolve_left (fun q => c_1217 (en.trans q))
    rw [← en] at ho
    obtain ⟨n0, n1, np, n4⟩ := ho
    have hn := hA.nt n0 n1
    refine g_aload_n (pc := 1325) hX 4 rfl dL_law_1325 ?_
    refine g_iload (pc := 1326) hX 1 rfl dL_law_1326 ?_
    refine g_iconst (pc := 1328) hX dL_law_1328 ?_
    refine g_callD (pc := 1329) (As := [vI (n), vI (3)]) (st2 := []) hX hA.N hA.e (q_note hA (n := n) (x := 3) (by omega) (by omega) (by omega) (by omega)) gL_law_X6_note (n := 2) (hw := rfl) (hrc := rfl) (hrs := rfl) (hd := by decide +kernel) (hR := ⟨Nat.le_of_ble_eq_true rfl, Nat.le_of_ble_eq_true rfl⟩) (hn := rfl) (hst := rfl) (hsum := Nat.le_of_ble_eq_true rfl) (hdg := dL_law_1329) ?_
    rintro _ S9 ⟨rfl, e9⟩
    rw [e9]
    clear e9 S9
    refine g_at (pc2 := 1332) rfl rfl (st2 := [vI (sN D n 3)]) rfl (S2 := S) rfl ?_
    refine g_istore (pc := 1332) hX (lv2 := [(15, vI (sN D n 3)), (14, vI (sP D p 8)), (13, vI (n)), (12, vI (p)), (0, .ref b), (1, .ref (gw_ad w 0)), (2, vI (snP D)), (3, vI (snN D)), (4, vI (snR D)), (5, vI (k)), (6, vI (q)), (7, vI (a)), (8, vI (1)), (9, vI (how)), (10, vL (fpZ D))]) (by decide) rfl dL_law_1332 ?_
    refine g_iload (pc := 1334) hX 11 rfl dL_law_1334 ?_
    refine g_sipush (pc := 1336) hX (by decide) dL_law_1336 ?_
    refine g_iandZ (pc := 1339) hX dL_law_1339 ?_
    refine g_if_eq (pc := 1340) (tgt := 1347) hX (andZ_in _ _) dL_law_1340 (by decide) (fun c_1340 => ?_) (fun c_1340 => ?_)
    · skip
      refine g_iconst (pc := 1347) hX dL_law_1347 ?_
      refine g_istore (pc := 1348) hX (lv2 := [(16, vI (0)), (15, vI (sN D n 3)), (14, vI (sP D p 8)), (13, vI (n)), (12, vI (p)), (0, .ref b), (1, .ref (gw_ad w 0)), (2, vI (snP D)), (3, vI (snN D)), (4, vI (snR D)), (5, vI (k)), (6, vI (q)), (7, vI (a)), (8, vI (1)), (9, vI (how)), (10, vL (fpZ D))]) (by decide) rfl dL_law_1348 ?_
      refine g_aload_n (pc := 1350) hX 6 rfl dL_law_1350 ?_
      refine g_iload (pc := 1351) hX 3 rfl dL_law_1351 ?_
      refine g_iload (pc := 1353) hX 0 rfl dL_law_1353 ?_
      refine g_callD (pc := 1355) (As := [vI (n), vI (0)]) (st2 := []) hX hA.N hA.e (q_settle0 hA (n := n) n0 n1 n4) gL_law_X6_settle (n := 2) (hw := rfl) (hrc := rfl) (hrs := rfl) (hd := by decide +kernel) (hR := ⟨Nat.le_of_ble_eq_true rfl, Nat.le_of_ble_eq_true rfl⟩) (hn := rfl) (hst := rfl) (hsum := Nat.le_of_ble_eq_true rfl) (hdg := dL_law_1355) ?_
      rintro _ S1355 ⟨rfl, D2, hA2, eG, ⟨eP, eN, eR⟩, a1, a2⟩
      refine g_at (pc2 := 1358) rfl rfl (st2 := [vI (0)]) rfl (S2 := S1355) rfl ?_
      have eG1 : sG D2 1 = sG D 1 := by rw [eG]
      have a18 : sP D2 p 8 = sP D p 8 := by rw [a1]
      refine g_istore (pc := 1358) hX (lv2 := [(17, vI (0)), (16, vI (0)), (15, vI (sN D n 3)), (14, vI (sP D p 8)), (13, vI (n)), (12, vI (p)), (0, .ref b), (1, .ref (gw_ad w 0)), (2, vI (snP D)), (3, vI (snN D)), (4, vI (snR D)), (5, vI (k)), (6, vI (q)), (7, vI (a)), (8, vI (1)), (9, vI (how)), (10, vL (fpZ D))]) (by decide) rfl dL_law_1358 ?_
      refine g_iload (pc := 1360) hX 0 rfl dL_law_1360 ?_
      refine g_iload (pc := 1362) hX 1 rfl dL_law_1362 ?_
      refine g_if_eq (pc := 1364) (tgt := 1375) hX (by first | assumption | exact inI_mk (by omega) (by omega)) dL_law_1364 (by decide) (fun c_1364 => ?_) (fun c_1364 => ?_)
      · skip
        refine g_iconst (pc := 1375) hX dL_law_1375 ?_
        refine g_icmp_ne (pc := 1376) (tgt := 1466) hX (by first | assumption | exact inI_mk (by omega) (by omega)) (by first | assumption | exact inI_mk (by omega) (by omega)) dL_law_1376 (by decide) (fun c_1376 => ?_) (fun c_1376 => ?_)
        · skip
          exact absurd c_1376 (by omega)
        · skip
          refine g_aload_n (pc := 1379) hX 7 rfl dL_law_1379 ?_
          refine g_iload (pc := 1380) hX 5 rfl dL_law_1380 ?_
          refine g_bipush (pc := 1382) hX (by decide) dL_law_1382 ?_
          refine g_callD (pc := 1384) (As := [vI (p), vI (8)]) (st2 := []) hX hA2.N hA2.e (q_parcel hA2 (p := p) (x := 8) (by omega) (by omega) (by omega) (by omega)) gL_law_X6_parcel (n := 2) (hw := rfl) (hrc := rfl) (hrs := rfl) (hd := by decide +kernel) (hR := ⟨Nat.le_of_ble_eq_true rfl, Nat.le_of_ble_eq_true rfl⟩) (hn := rfl) (hst := rfl) (hsum := Nat.le_of_ble_eq_true rfl) (hdg := dL_law_1384) ?_
          rintro _ S9 ⟨rfl, e9⟩
          rw [e9]
          clear e9 S9
          refine g_at (pc2 := 1387) rfl rfl (st2 := [vI (sP D2 p 8)]) rfl (S2 := S1355) rfl ?_
          refine g_iload (pc := 1387) hX 1 rfl dL_law_1387 ?_
          refine g_if_eq (pc := 1389) (tgt := 1397) hX (by first | assumption | exact inI_mk (by omega) (by omega)) dL_law_1389 (by decide) (fun c_1389 => ?_) (fun c_1389 => ?_)
          · skip
            refine g_iload (pc := 1397) hX 3 rfl dL_law_1397 ?_
            refine g_icmp_ne (pc := 1399) (tgt := 1466) hX (by first | assumption | exact inI_mk (by omega) (by omega)) (by first | assumption | exact inI_mk (by omega) (by omega)) dL_law_1399 (by decide) (fun c_1399 => ?_) (fun c_1399 => ?_)
            · skip
              omega
            · skip
              refine g_aload_n (pc := 1402) hX 7 rfl dL_law_1402 ?_
              refine g_iload (pc := 1403) hX 4 rfl dL_law_1403 ?_
              refine g_iconst (pc := 1405) hX dL_law_1405 ?_
              refine g_callD (pc := 1406) (As := [vI (n), vI (4)]) (st2 := []) hX hA2.N hA2.e (q_note hA2 (n := n) (x := 4) (by omega) (by omega) (by omega) (by omega)) gL_law_X6_note (n := 2) (hw := rfl) (hrc := rfl) (hrs := rfl) (hd := by decide +kernel) (hR := ⟨Nat.le_of_ble_eq_true rfl, Nat.le_of_ble_eq_true rfl⟩) (hn := rfl) (hst := rfl) (hsum := Nat.le_of_ble_eq_true rfl) (hdg := dL_law_1406) ?_
              rintro _ S9 ⟨rfl, e9⟩
              rw [e9]
              clear e9 S9
              refine g_at (pc2 := 1409) rfl rfl (st2 := [vI (sN D2 n 4)]) rfl (S2 := S1355) rfl ?_
              refine g_iload (pc := 1409) hX 1 rfl dL_law_1409 ?_
              refine g_if_eq (pc := 1411) (tgt := 1418) hX (by first | assumption | exact inI_mk (by omega) (by omega)) dL_law_1411 (by decide) (fun c_1411 => ?_) (fun c_1411 => ?_)
              · skip
                refine g_iconst (pc := 1418) hX dL_law_1418 ?_
                refine g_icmp_ne (pc := 1419) (tgt := 1466) hX (by first | assumption | exact inI_mk (by omega) (by omega)) (by first | assumption | exact inI_mk (by omega) (by omega)) dL_law_1419 (by decide) (fun c_1419 => ?_) (fun c_1419 => ?_)
                · skip
                  omega
                · skip
                  refine g_aload_n (pc := 1422) hX 7 rfl dL_law_1422 ?_
                  refine g_iload (pc := 1423) hX 4 rfl dL_law_1423 ?_
                  refine g_iconst (pc := 1425) hX dL_law_1425 ?_
                  refine g_callD (pc := 1426) (As := [vI (n), vI (1)]) (st2 := []) hX hA2.N hA2.e (s_settle1 hA2 (n := n) (by omega) (by omega) (by rw [a2]; decide)) gL_law_X6_settle (n := 2) (hw := rfl) (hrc := rfl) (hrs := rfl) (hd := by decide +kernel) (hR := ⟨Nat.le_of_ble_eq_true rfl, Nat.le_of_ble_eq_true rfl⟩) (hn := rfl) (hst := rfl) (hsum := Nat.le_of_ble_eq_true rfl) (hdg := dL_law_1426) ?_
                  rintro _ S9 ⟨rfl, e9⟩
                  rw [e9]
                  clear e9 S9
                  refine g_at (pc2 := 1429) rfl rfl (st2 := [vI (-1000002)]) rfl (S2 := S1355) rfl ?_
                  refine g_ldc (pc := 1429) hX (z := -1000002) (List.mem_of_getElem? (i := 4) rfl) (by decide +kernel) dL_law_1429 ?_
                  refine g_icmp_ne (pc := 1431) (tgt := 1466) hX (by first | assumption | exact inI_mk (by omega) (by omega)) (by first | assumption | exact inI_mk (by omega) (by omega)) dL_law_1431 (by decide) (fun c_1431 => ?_) (fun c_1431 => ?_)
                  · skip
                    exact absurd c_1431 (by omega)
                  · skip
                    refine g_iload (pc := 1434) hX 1 rfl dL_law_1434 ?_
                    refine g_if_eq (pc := 1436) (tgt := 1462) hX (by first | assumption | exact inI_mk (by omega) (by omega)) dL_law_1436 (by decide) (fun c_1436 => ?_) (fun c_1436 => ?_)
                    · skip
                      refine g_iconst (pc := 1462) hX dL_law_1462 ?_
                      refine g_goto (pc := 1463) (tgt := 1467) hX dL_law_1463 (by decide) ?_
                      refine g_istore (pc := 1467) hX (lv2 := [(8, vI (1)), (17, vI (0)), (16, vI (0)), (15, vI (sN D n 3)), (14, vI (sP D p 8)), (13, vI (n)), (12, vI (p)), (0, .ref b), (1, .ref (gw_ad w 0)), (2, vI (snP D)), (3, vI (snN D)), (4, vI (snR D)), (5, vI (k)), (6, vI (q)), (7, vI (a)), (9, vI (how)), (10, vL (fpZ D))]) (by decide) rfl dL_law_1467 ?_
                      refine g_goto (pc := 1469) (tgt := 1488) hX dL_law_1469 (by decide) ?_
                      refine g_sub (lv2 := [(8, vI (1)), (0, .ref b), (1, .ref (gw_ad w 0)), (2, vI (snP D)), (3, vI (snN D)), (4, vI (snR D)), (5, vI (k))]) [0, 7, 8, 9, 10, 11, 12] rfl ?_
                      exact hend D2 S1355 _ _ _ hA2 (by omega) (by omega) (by omega) ⟨by omega, by omega⟩
                    · skip
                      exact absurd c_1436 (by omega)
              · skip
                exact absurd c_1411 (by omega)
          · skip
            exact absurd c_1389 (by omega)
      · skip
        exact absurd c_1364 (by omega)
    · skip
      refine g_iconst (pc := 1343) hX dL_law_1343 ?_
      refine g_goto (pc := 1344) (tgt := 1348) hX dL_law_1344 (by decide) ?_
      refine g_istore (pc := 1348) hX (lv2 := [(16, vI (1)), (15, vI (sN D n 3)), (14, vI (sP D p 8)), (13, vI (n)), (12, vI (p)), (0, .ref b), (1, .ref (gw_ad w 0)), (2, vI (snP D)), (3, vI (snN D)), (4, vI (snR D)), (5, vI (k)), (6, vI (q)), (7, vI (a)), (8, vI (1)), (9, vI (how)), (10, vL (fpZ D))]) (by decide) rfl dL_law_1348 ?_
      refine g_aload_n (pc := 1350) hX 6 rfl dL_law_1350 ?_
      refine g_iload (pc := 1351) hX 3 rfl dL_law_1351 ?_
      refine g_iload (pc := 1353) hX 0 rfl dL_law_1353 ?_
      refine g_callD (pc := 1355) (As := [vI (n), vI (1)]) (st2 := []) hX hA.N hA.e (q_settle1 hA (n := n) n0 n1 n4) gL_law_X6_settle (n := 2) (hw := rfl) (hrc := rfl) (hrs := rfl) (hd := by decide +kernel) (hR := ⟨Nat.le_of_ble_eq_true rfl, Nat.le_of_ble_eq_true rfl⟩) (hn := rfl) (hst := rfl) (hsum := Nat.le_of_ble_eq_true rfl) (hdg := dL_law_1355) ?_
      rintro _ S1355 ⟨rfl, D2, hA2, eG, ⟨eP, eN, eR⟩, a1, a2, a3, a4, a5⟩
      rw [np] at a1 a5
      rw [np]
      refine g_at (pc2 := 1358) rfl rfl (st2 := [vI (sP D p 8 - sN D n 3)]) rfl (S2 := S1355) rfl ?_
      have eG1 : sG D2 1 = sG D 1 := by rw [eG]
      have hr2 := hA2.row (p := p) p0 (by omega)
      have hn2 := hA2.nt (n := n) n0 (by omega)
      have a6 : 0 ≤ sP D2 p (sN D2 n 1) ∧ sP D2 p (sN D2 n 1) ≤ 100000 := by rw [a3, a5]; omega
      refine g_istore (pc := 1358) hX (lv2 := [(17, vI (sP D p 8 - sN D n 3)), (16, vI (1)), (15, vI (sN D n 3)), (14, vI (sP D p 8)), (13, vI (n)), (12, vI (p)), (0, .ref b), (1, .ref (gw_ad w 0)), (2, vI (snP D)), (3, vI (snN D)), (4, vI (snR D)), (5, vI (k)), (6, vI (q)), (7, vI (a)), (8, vI (1)), (9, vI (how)), (10, vL (fpZ D))]) (by decide) rfl dL_law_1358 ?_
      refine g_iload (pc := 1360) hX 0 rfl dL_law_1360 ?_
      refine g_iload (pc := 1362) hX 1 rfl dL_law_1362 ?_
      refine g_if_eq (pc := 1364) (tgt := 1375) hX (by first | assumption | exact inI_mk (by omega) (by omega)) dL_law_1364 (by decide) (fun c_1364 => ?_) (fun c_1364 => ?_)
      · skip
        exact absurd c_1364 (by omega)
      · skip
        refine g_iload (pc := 1367) hX 3 rfl dL_law_1367 ?_
        refine g_iload (pc := 1369) hX 2 rfl dL_law_1369 ?_
        refine g_isub (pc := 1371) hX dL_law_1371 ?_
        refine g_goto (pc := 1372) (tgt := 1376) hX dL_law_1372 (by decide) ?_
        refine g_icmp_ne (pc := 1376) (tgt := 1466) hX (by first | assumption | exact inI_mk (by omega) (by omega)) (by first | assumption | exact inI_mk (by omega) (by omega)) dL_law_1376 (by decide) (fun c_1376 => ?_) (fun c_1376 => ?_)
        · skip
          omega
        · skip
          refine g_aload_n (pc := 1379) hX 7 rfl dL_law_1379 ?_
          refine g_iload (pc := 1380) hX 5 rfl dL_law_1380 ?_
          refine g_bipush (pc := 1382) hX (by decide) dL_law_1382 ?_
          refine g_callD (pc := 1384) (As := [vI (p), vI (8)]) (st2 := []) hX hA2.N hA2.e (q_parcel hA2 (p := p) (x := 8) (by omega) (by omega) (by omega) (by omega)) gL_law_X6_parcel (n := 2) (hw := rfl) (hrc := rfl) (hrs := rfl) (hd := by decide +kernel) (hR := ⟨Nat.le_of_ble_eq_true rfl, Nat.le_of_ble_eq_true rfl⟩) (hn := rfl) (hst := rfl) (hsum := Nat.le_of_ble_eq_true rfl) (hdg := dL_law_1384) ?_
          rintro _ S9 ⟨rfl, e9⟩
          rw [e9]
          clear e9 S9
          refine g_at (pc2 := 1387) rfl rfl (st2 := [vI (sP D2 p 8)]) rfl (S2 := S1355) rfl ?_
          refine g_iload (pc := 1387) hX 1 rfl dL_law_1387 ?_
          refine g_if_eq (pc := 1389) (tgt := 1397) hX (by first | assumption | exact inI_mk (by omega) (by omega)) dL_law_1389 (by decide) (fun c_1389 => ?_) (fun c_1389 => ?_)
          · skip
            exact absurd c_1389 (by omega)
          · skip
            refine g_iload (pc := 1392) hX 2 rfl dL_law_1392 ?_
            refine g_goto (pc := 1394) (tgt := 1399) hX dL_law_1394 (by decide) ?_
            refine g_icmp_ne (pc := 1399) (tgt := 1466) hX (by first | assumption | exact inI_mk (by omega) (by omega)) (by first | assumption | exact inI_mk (by omega) (by omega)) dL_law_1399 (by decide) (fun c_1399 => ?_) (fun c_1399 => ?_)
            · skip
              omega
            · skip
              refine g_aload_n (pc := 1402) hX 7 rfl dL_law_1402 ?_
              refine g_iload (pc := 1403) hX 4 rfl dL_law_1403 ?_
              refine g_iconst (pc := 1405) hX dL_law_1405 ?_
              refine g_callD (pc := 1406) (As := [vI (n), vI (4)]) (st2 := []) hX hA2.N hA2.e (q_note hA2 (n := n) (x := 4) (by omega) (by omega) (by omega) (by omega)) gL_law_X6_note (n := 2) (hw := rfl) (hrc := rfl) (hrs := rfl) (hd := by decide +kernel) (hR := ⟨Nat.le_of_ble_eq_true rfl, Nat.le_of_ble_eq_true rfl⟩) (hn := rfl) (hst := rfl) (hsum := Nat.le_of_ble_eq_true rfl) (hdg := dL_law_1406) ?_
              rintro _ S9 ⟨rfl, e9⟩
              rw [e9]
              clear e9 S9
              refine g_at (pc2 := 1409) rfl rfl (st2 := [vI (sN D2 n 4)]) rfl (S2 := S1355) rfl ?_
              refine g_iload (pc := 1409) hX 1 rfl dL_law_1409 ?_
              refine g_if_eq (pc := 1411) (tgt := 1418) hX (by first | assumption | exact inI_mk (by omega) (by omega)) dL_law_1411 (by decide) (fun c_1411 => ?_) (fun c_1411 => ?_)
              · skip
                exact absurd c_1411 (by omega)
              · skip
                refine g_iconst (pc := 1414) hX dL_law_1414 ?_
                refine g_goto (pc := 1415) (tgt := 1419) hX dL_law_1415 (by decide) ?_
                refine g_icmp_ne (pc := 1419) (tgt := 1466) hX (by first | assumption | exact inI_mk (by omega) (by omega)) (by first | assumption | exact inI_mk (by omega) (by omega)) dL_law_1419 (by decide) (fun c_1419 => ?_) (fun c_1419 => ?_)
                · skip
                  omega
                · skip
                  refine g_aload_n (pc := 1422) hX 7 rfl dL_law_1422 ?_
                  refine g_iload (pc := 1423) hX 4 rfl dL_law_1423 ?_
                  refine g_iconst (pc := 1425) hX dL_law_1425 ?_
                  refine g_callD (pc := 1426) (As := [vI (n), vI (1)]) (st2 := []) hX hA2.N hA2.e (s_settle1 hA2 (n := n) (by omega) (by omega) (by rw [a2]; decide)) gL_law_X6_settle (n := 2) (hw := rfl) (hrc := rfl) (hrs := rfl) (hd := by decide +kernel) (hR := ⟨Nat.le_of_ble_eq_true rfl, Nat.le_of_ble_eq_true rfl⟩) (hn := rfl) (hst := rfl) (hsum := Nat.le_of_ble_eq_true rfl) (hdg := dL_law_1426) ?_
                  rintro _ S9 ⟨rfl, e9⟩
                  rw [e9]
                  clear e9 S9
                  refine g_at (pc2 := 1429) rfl rfl (st2 := [vI (-1000002)]) rfl (S2 := S1355) rfl ?_
                  refine g_ldc (pc := 1429) hX (z := -1000002) (List.mem_of_getElem? (i := 4) rfl) (by decide +kernel) dL_law_1429 ?_
                  refine g_icmp_ne (pc := 1431) (tgt := 1466) hX (by first | assumption | exact inI_mk (by omega) (by omega)) (by first | assumption | exact inI_mk (by omega) (by omega)) dL_law_1431 (by decide) (fun c_1431 => ?_) (fun c_1431 => ?_)
                  · skip
                    exact absurd c_1431 (by omega)
                  · skip
                    refine g_iload (pc := 1434) hX 1 rfl dL_law_1434 ?_
                    refine g_if_eq (pc := 1436) (tgt := 1462) hX (by first | assumption | exact inI_mk (by omega) (by omega)) dL_law_1436 (by decide) (fun c_1436 => ?_) (fun c_1436 => ?_)
                    · skip
                      exact absurd c_1436 (by omega)
                    · skip
                      refine g_aload_n (pc := 1439) hX 7 rfl dL_law_1439 ?_
                      refine g_iload (pc := 1440) hX 5 rfl dL_law_1440 ?_
                      refine g_aload_n (pc := 1442) hX 7 rfl dL_law_1442 ?_
                      refine g_iload (pc := 1443) hX 4 rfl dL_law_1443 ?_
                      refine g_iconst (pc := 1445) hX dL_law_1445 ?_
                      refine g_callD (pc := 1446) (As := [vI (n), vI (1)]) (st2 := [vI (p), .ref (gw_ad w 0)]) hX hA2.N hA2.e (q_note hA2 (n := n) (x := 1) (by omega) (by omega) (by omega) (by omega)) gL_law_X6_note (n := 2) (hw := rfl) (hrc := rfl) (hrs := rfl) (hd := by decide +kernel) (hR := ⟨Nat.le_of_ble_eq_true rfl, Nat.le_of_ble_eq_true rfl⟩) (hn := rfl) (hst := rfl) (hsum := Nat.le_of_ble_eq_true rfl) (hdg := dL_law_1446) ?_
                      rintro _ S9 ⟨rfl, e9⟩
                      rw [e9]
                      clear e9 S9
                      refine g_at (pc2 := 1449) rfl rfl (st2 := [vI (sN D2 n 1), vI (p), .ref (gw_ad w 0)]) rfl (S2 := S1355) rfl ?_
                      refine g_callD (pc := 1449) (As := [vI (p), vI (sN D2 n 1)]) (st2 := []) hX hA2.N hA2.e (q_parcel hA2 (p := p) (x := sN D2 n 1) (by omega) (by omega) (by omega) (by omega)) gL_law_X6_parcel (n := 2) (hw := rfl) (hrc := rfl) (hrs := rfl) (hd := by decide +kernel) (hR := ⟨Nat.le_of_ble_eq_true rfl, Nat.le_of_ble_eq_true rfl⟩) (hn := rfl) (hst := rfl) (hsum := Nat.le_of_ble_eq_true rfl) (hdg := dL_law_1449) ?_
                      rintro _ S9 ⟨rfl, e9⟩
                      rw [e9]
                      clear e9 S9
                      refine g_at (pc2 := 1452) rfl rfl (st2 := [vI (sP D2 p (sN D2 n 1))]) rfl (S2 := S1355) rfl ?_
                      refine g_aload_n (pc := 1452) hX 7 rfl dL_law_1452 ?_
                      refine g_iload (pc := 1453) hX 4 rfl dL_law_1453 ?_
                      refine g_iconst (pc := 1455) hX dL_law_1455 ?_
                      refine g_callD (pc := 1456) (As := [vI (n), vI (2)]) (st2 := [vI (sP D2 p (sN D2 n 1))]) hX hA2.N hA2.e (q_note hA2 (n := n) (x := 2) (by omega) (by omega) (by omega) (by omega)) gL_law_X6_note (n := 2) (hw := rfl) (hrc := rfl) (hrs := rfl) (hd := by decide +kernel) (hR := ⟨Nat.le_of_ble_eq_true rfl, Nat.le_of_ble_eq_true rfl⟩) (hn := rfl) (hst := rfl) (hsum := Nat.le_of_ble_eq_true rfl) (hdg := dL_law_1456) ?_
                      rintro _ S9 ⟨rfl, e9⟩
                      rw [e9]
                      clear e9 S9
                      refine g_at (pc2 := 1459) rfl rfl (st2 := [vI (sN D2 n 2), vI (sP D2 p (sN D2 n 1))]) rfl (S2 := S1355) rfl ?_
                      refine g_icmp_ne (pc := 1459) (tgt := 1466) hX (by first | assumption | exact inI_mk (by omega) (by omega)) (by first | assumption | exact inI_mk (by omega) (by omega)) dL_law_1459 (by decide) (fun c_1459 => ?_) (fun c_1459 => ?_)
                      · skip
                        exact absurd (by rw [a3, a4]; exact a5) c_1459
                      · skip
                        refine g_iconst (pc := 1462) hX dL_law_1462 ?_
                        refine g_goto (pc := 1463) (tgt := 1467) hX dL_law_1463 (by decide) ?_
                        refine g_istore (pc := 1467) hX (lv2 := [(8, vI (1)), (17, vI (sP D p 8 - sN D n 3)), (16, vI (1)), (15, vI (sN D n 3)), (14, vI (sP D p 8)), (13, vI (n)), (12, vI (p)), (0, .ref b), (1, .ref (gw_ad w 0)), (2, vI (snP D)), (3, vI (snN D)), (4, vI (snR D)), (5, vI (k)), (6, vI (q)), (7, vI (a)), (9, vI (how)), (10, vL (fpZ D))]) (by decide) rfl dL_law_1467 ?_
                        refine g_goto (pc := 1469) (tgt := 1488) hX dL_law_1469 (by decide) ?_
                        refine g_sub (lv2 := [(8, vI (1)), (0, .ref b), (1, .ref (gw_ad w 0)), (2, vI (snP D)), (3, vI (snN D)), (4, vI (snR D)), (5, vI (k))]) [0, 7, 8, 9, 10, 11, 12] rfl ?_
                        exact hend D2 S1355 _ _ _ hA2 (by omega) (by omega) (by omega) ⟨by omega, by omega⟩
  · skip
    refine g_iload (pc := 1220) hX 10 rfl dL_law_1220 ?_
    refine g_iconst (pc := 1222) hX dL_law_1222 ?_
    refine g_ishr (pc := 1223) hX dL_law_1223 ?_
    refine g_iconst (pc := 1224) hX dL_law_1224 ?_
    refine g_callT1 (pc := 1225) (As := [vI (shrZ a 5), vI (4)]) (st2 := []) hX (c_L_up (x := shrZ a 5) (m := 4) (by omega) (by omega)) gL_law_L_up (n := 2) (hw := rfl) (hrc := rfl) (hrs := rfl) (hd := by decide +kernel) (hR := ⟨Nat.le_of_ble_eq_true rfl, Nat.le_of_ble_eq_true rfl⟩) (hn := rfl) (hst := rfl) (hsum := Nat.le_of_ble_eq_true rfl) (hdg := dL_law_1225) ?_
    rintro _ S9 ⟨rfl, e9⟩
    rw [e9]
    clear e9 S9
    refine g_at (pc2 := 1228) rfl rfl (st2 := [vI (upZ (shrZ a 5) 4)]) rfl (S2 := S) rfl ?_
    obtain ⟨wh, ewh⟩ : ∃ z : Int, z = upZ (shrZ a 5) 4 := ⟨_, rfl⟩
    refine g_at rfl rfl (st2 := [vI (wh)]) (by rw [ewh]) rfl ?_
    have hwh : 0 ≤ wh ∧ wh < 4 := by rw [ewh]; exact upZ_b _ (by decide)
    refine g_istore (pc := 1228) hX (lv2 := [(15, vI (wh)), (14, vI (sP D p 8)), (13, vI (n)), (12, vI (p)), (0, .ref b), (1, .ref (gw_ad w 0)), (2, vI (snP D)), (3, vI (snN D)), (4, vI (snR D)), (5, vI (k)), (6, vI (q)), (7, vI (a)), (8, vI (1)), (9, vI (how)), (10, vL (fpZ D))]) (by decide) rfl dL_law_1228 ?_
    have j1259 : ∀ (y : Int), (1 ≤ y ∧ y ≤ (if wh = 0 then 100000 else 2000)) → G w room_1 X 21 1259 [(15, vI (wh)), (12, vI (p)), (0, .ref b), (1, .ref (gw_ad w 0)), (2, vI (snP D)), (3, vI (snN D)), (4, vI (snR D)), (5, vI (k))] [vI (y), vI (wh), vI (p), .ref (gw_ad w 0)] S := by
      intro y hy
      by_cases hcb : 0 < sC D (sP D p 4)
      · skip
        by_cases hn2 : snN D < 20
        · skip
          refine g_callD (pc := 1259) (As := [vI (p), vI (wh), vI (y)]) (st2 := []) hX hA.N hA.e (q_dispute hA (p := p) (x := wh) (y := y) (by omega) (by omega) (by omega) (by omega) hy.1 hy.2 ⟨en.symm.trans c_1217, hcb⟩ hn2) gL_law_X6_dispute (n := 3) (hw := rfl) (hrc := rfl) (hrs := rfl) (hd := by decide +kernel) (hR := ⟨Nat.le_of_ble_eq_true rfl, Nat.le_of_ble_eq_true rfl⟩) (hn := rfl) (hst := rfl) (hsum := Nat.le_of_ble_eq_true rfl) (hdg := dL_law_1259) ?_
          rintro _ S1259 ⟨rfl, D2, hA2, eG, eC, eP, eN, eR⟩
          refine g_at (pc2 := 1262) rfl rfl (st2 := [vI (snN D)]) rfl (S2 := S1259) rfl ?_
          have eG1 : sG D2 1 = sG D 1 := by rw [eG]
          refine g_istore (pc := 1262) hX (lv2 := [(16, vI (snN D)), (15, vI (wh)), (12, vI (p)), (0, .ref b), (1, .ref (gw_ad w 0)), (2, vI (snP D)), (3, vI (snN D)), (4, vI (snR D)), (5, vI (k))]) (by decide) rfl dL_law_1262 ?_
          refine g_iload (pc := 1264) hX 0 rfl dL_law_1264 ?_
          refine g_iload_n (pc := 1266) hX 6 rfl dL_law_1266 ?_
          refine g_icmp_eq (pc := 1267) (tgt := 1302) hX (by first | assumption | exact inI_mk (by omega) (by omega)) (by first | assumption | exact inI_mk (by omega) (by omega)) dL_law_1267 (by decide) (fun c_1267 => ?_) (fun c_1267 => ?_)
          · skip
            refine g_iconst (pc := 1302) hX dL_law_1302 ?_
            refine g_goto (pc := 1303) (tgt := 1307) hX dL_law_1303 (by decide) ?_
            refine g_istore (pc := 1307) hX (lv2 := [(8, vI (1)), (16, vI (snN D)), (15, vI (wh)), (12, vI (p)), (0, .ref b), (1, .ref (gw_ad w 0)), (2, vI (snP D)), (3, vI (snN D)), (4, vI (snR D)), (5, vI (k))]) (by decide) rfl dL_law_1307 ?_
            refine g_iload_n (pc := 1309) hX 7 rfl dL_law_1309 ?_
            refine g_iload (pc := 1310) hX 1 rfl dL_law_1310 ?_
            refine g_if_lt (pc := 1312) (tgt := 1319) hX (by first | assumption | exact inI_mk (by omega) (by omega)) dL_law_1312 (by decide) (fun c_1312 => ?_) (fun c_1312 => ?_)
            · skip
              omega
            · skip
              refine g_iconst (pc := 1315) hX dL_law_1315 ?_
              refine g_goto (pc := 1316) (tgt := 1320) hX dL_law_1316 (by decide) ?_
              refine g_iadd (pc := 1320) hX dL_law_1320 ?_
              refine g_istore_n (pc := 1321) hX (lv2 := [(3, vI ((snN D) + 1)), (8, vI (1)), (16, vI (snN D)), (15, vI (wh)), (12, vI (p)), (0, .ref b), (1, .ref (gw_ad w 0)), (2, vI (snP D)), (4, vI (snR D)), (5, vI (k))]) rfl (by decide) rfl dL_law_1321 ?_
              refine g_goto (pc := 1322) (tgt := 1469) hX dL_law_1322 (by decide) ?_
              refine g_goto (pc := 1469) (tgt := 1488) hX dL_law_1469 (by decide) ?_
              refine g_sub (lv2 := [(8, vI (1)), (0, .ref b), (1, .ref (gw_ad w 0)), (2, vI (snP D)), (3, vI ((snN D) + 1)), (4, vI (snR D)), (5, vI (k))]) [1, 5, 6, 7, 0, 8, 9] rfl ?_
              exact hend D2 S1259 _ _ _ hA2 (by omega) (by omega) (by omega) ⟨by omega, by omega⟩
          · skip
            omega
        · skip
          refine g_callD (pc := 1259) (As := [vI (p), vI (wh), vI (y)]) (st2 := []) hX hA.N hA.e (f_dispute hA (p := p) (x := wh) (y := y) (by omega) (by omega) (by omega) (by omega) hy.1 hy.2 ⟨en.symm.trans c_1217, hcb⟩ hn2) gL_law_X6_dispute (n := 3) (hw := rfl) (hrc := rfl) (hrs := rfl) (hd := by decide +kernel) (hR := ⟨Nat.le_of_ble_eq_true rfl, Nat.le_of_ble_eq_true rfl⟩) (hn := rfl) (hst := rfl) (hsum := Nat.le_of_ble_eq_true rfl) (hdg := dL_law_1259) ?_
          rintro _ S9 ⟨rfl, e9⟩
          rw [e9]
          clear e9 S9
          refine g_at (pc2 := 1262) rfl rfl (st2 := [vI (-1000003)]) rfl (S2 := S) rfl ?_
          refine g_istore (pc := 1262) hX (lv2 := [(16, vI (-1000003)), (15, vI (wh)), (12, vI (p)), (0, .ref b), (1, .ref (gw_ad w 0)), (2, vI (snP D)), (3, vI (snN D)), (4, vI (snR D)), (5, vI (k))]) (by decide) rfl dL_law_1262 ?_
          refine g_iload (pc := 1264) hX 0 rfl dL_law_1264 ?_
          refine g_iload_n (pc := 1266) hX 6 rfl dL_law_1266 ?_
          refine g_icmp_eq (pc := 1267) (tgt := 1302) hX (by first | assumption | exact inI_mk (by omega) (by omega)) (by first | assumption | exact inI_mk (by omega) (by omega)) dL_law_1267 (by decide) (fun c_1267 => ?_) (fun c_1267 => ?_)
          · skip
            omega
          · skip
            refine g_iload (pc := 1270) hX 0 rfl dL_law_1270 ?_
            refine g_ldc (pc := 1272) hX (z := -1000002) (List.mem_of_getElem? (i := 4) rfl) (by decide +kernel) dL_law_1272 ?_
            refine g_icmp_ne (pc := 1274) (tgt := 1295) hX (by first | assumption | exact inI_mk (by omega) (by omega)) (by first | assumption | exact inI_mk (by omega) (by omega)) dL_law_1274 (by decide) (fun c_1274 => ?_) (fun c_1274 => ?_)
            · skip
              refine g_iload (pc := 1295) hX 0 rfl dL_law_1295 ?_
              refine g_ldc (pc := 1297) hX (z := -1000003) (List.mem_of_getElem? (i := 5) rfl) (by decide +kernel) dL_law_1297 ?_
              refine g_icmp_ne (pc := 1299) (tgt := 1306) hX (by first | assumption | exact inI_mk (by omega) (by omega)) (by first | assumption | exact inI_mk (by omega) (by omega)) dL_law_1299 (by decide) (fun c_1299 => ?_) (fun c_1299 => ?_)
              · skip
                exact absurd c_1299 (by omega)
              · skip
                refine g_iconst (pc := 1302) hX dL_law_1302 ?_
                refine g_goto (pc := 1303) (tgt := 1307) hX dL_law_1303 (by decide) ?_
                refine g_istore (pc := 1307) hX (lv2 := [(8, vI (1)), (16, vI (-1000003)), (15, vI (wh)), (12, vI (p)), (0, .ref b), (1, .ref (gw_ad w 0)), (2, vI (snP D)), (3, vI (snN D)), (4, vI (snR D)), (5, vI (k))]) (by decide) rfl dL_law_1307 ?_
                refine g_iload_n (pc := 1309) hX 7 rfl dL_law_1309 ?_
                refine g_iload (pc := 1310) hX 1 rfl dL_law_1310 ?_
                refine g_if_lt (pc := 1312) (tgt := 1319) hX (by first | assumption | exact inI_mk (by omega) (by omega)) dL_law_1312 (by decide) (fun c_1312 => ?_) (fun c_1312 => ?_)
                · skip
                  refine g_iconst (pc := 1319) hX dL_law_1319 ?_
                  refine g_iadd (pc := 1320) hX dL_law_1320 ?_
                  refine g_istore_n (pc := 1321) hX (lv2 := [(3, vI ((snN D) + 0)), (8, vI (1)), (16, vI (-1000003)), (15, vI (wh)), (12, vI (p)), (0, .ref b), (1, .ref (gw_ad w 0)), (2, vI (snP D)), (4, vI (snR D)), (5, vI (k))]) rfl (by decide) rfl dL_law_1321 ?_
                  refine g_goto (pc := 1322) (tgt := 1469) hX dL_law_1322 (by decide) ?_
                  refine g_goto (pc := 1469) (tgt := 1488) hX dL_law_1469 (by decide) ?_
                  refine g_sub (lv2 := [(8, vI (1)), (0, .ref b), (1, .ref (gw_ad w 0)), (2, vI (snP D)), (3, vI ((snN D) + 0)), (4, vI (snR D)), (5, vI (k))]) [1, 5, 6, 7, 0, 8, 9] rfl ?_
                  exact hend D S _ _ _ hA (by omega) (by omega) (by omega) ⟨by omega, by omega⟩
                · skip
                  exact absurd c_1312 (by omega)
            · skip
              exact absurd c_1274 (by omega)
      · skip
        refine g_callD (pc := 1259) (As := [vI (p), vI (wh), vI (y)]) (st2 := []) hX hA.N hA.e (s_dispute hA (p := p) (x := wh) (y := y) (by omega) (by omega) (by omega) (by omega) hy.1 hy.2 (fun q => hcb q.2)) gL_law_X6_dispute (n := 3) (hw := rfl) (hrc := rfl) (hrs := rfl) (hd := by decide +kernel) (hR := ⟨Nat.le_of_ble_eq_true rfl, Nat.le_of_ble_eq_true rfl⟩) (hn := rfl) (hst := rfl) (hsum := Nat.le_of_ble_eq_true rfl) (hdg := dL_law_1259) ?_
        rintro _ S9 ⟨rfl, e9⟩
        rw [e9]
        clear e9 S9
        refine g_at (pc2 := 1262) rfl rfl (st2 := [vI (-1000002)]) rfl (S2 := S) rfl ?_
        refine g_istore (pc := 1262) hX (lv2 := [(16, vI (-1000002)), (15, vI (wh)), (12, vI (p)), (0, .ref b), (1, .ref (gw_ad w 0)), (2, vI (snP D)), (3, vI (snN D)), (4, vI (snR D)), (5, vI (k))]) (by decide) rfl dL_law_1262 ?_
        refine g_iload (pc := 1264) hX 0 rfl dL_law_1264 ?_
        refine g_iload_n (pc := 1266) hX 6 rfl dL_law_1266 ?_
        refine g_icmp_eq (pc := 1267) (tgt := 1302) hX (by first | assumption | exact inI_mk (by omega) (by omega)) (by first | assumption | exact inI_mk (by omega) (by omega)) dL_law_1267 (by decide) (fun c_1267 => ?_) (fun c_1267 => ?_)
        · skip
          omega
        · skip
          refine g_iload (pc := 1270) hX 0 rfl dL_law_1270 ?_
          refine g_ldc (pc := 1272) hX (z := -1000002) (List.mem_of_getElem? (i := 4) rfl) (by decide +kernel) dL_law_1272 ?_
          refine g_icmp_ne (pc := 1274) (tgt := 1295) hX (by first | assumption | exact inI_mk (by omega) (by omega)) (by first | assumption | exact inI_mk (by omega) (by omega)) dL_law_1274 (by decide) (fun c_1274 => ?_) (fun c_1274 => ?_)
          · skip
            exact absurd c_1274 (by omega)
          · skip
            refine g_aload_n (pc := 1277) hX 4 rfl dL_law_1277 ?_
            refine g_aload_n (pc := 1278) hX 4 rfl dL_law_1278 ?_
            refine g_iload (pc := 1279) hX 2 rfl dL_law_1279 ?_
            refine g_iconst (pc := 1281) hX dL_law_1281 ?_
            refine g_callD (pc := 1282) (As := [vI (p), vI (4)]) (st2 := [.ref (gw_ad w 0)]) hX hA.N hA.e (q_parcel hA (p := p) (x := 4) (by omega) (by omega) (by omega) (by omega)) gL_law_X6_parcel (n := 2) (hw := rfl) (hrc := rfl) (hrs := rfl) (hd := by decide +kernel) (hR := ⟨Nat.le_of_ble_eq_true rfl, Nat.le_of_ble_eq_true rfl⟩) (hn := rfl) (hst := rfl) (hsum := Nat.le_of_ble_eq_true rfl) (hdg := dL_law_1282) ?_
            rintro _ S9 ⟨rfl, e9⟩
            rw [e9]
            clear e9 S9
            refine g_at (pc2 := 1285) rfl rfl (st2 := [vI (sP D p 4), .ref (gw_ad w 0)]) rfl (S2 := S) rfl ?_
            refine g_iconst (pc := 1285) hX dL_law_1285 ?_
            refine g_iconst (pc := 1286) hX dL_law_1286 ?_
            refine g_callD (pc := 1287) (As := [vI (sP D p 4), vI (0), vI (0)]) (st2 := []) hX hA.N hA.e (x_bandAt hA (z := sP D p 4) (i := 0) (x := 0) (inI_mk (by omega) (by omega)) (inI_mk (by omega) (by omega)) (inI_mk (by omega) (by omega)) (by omega)) gL_law_X6_bandAt (n := 3) (hw := rfl) (hrc := rfl) (hrs := rfl) (hd := by decide +kernel) (hR := ⟨Nat.le_of_ble_eq_true rfl, Nat.le_of_ble_eq_true rfl⟩) (hn := rfl) (hst := rfl) (hsum := Nat.le_of_ble_eq_true rfl) (hdg := dL_law_1287) ?_
            rintro _ S9 ⟨rfl, e9⟩
            rw [e9]
            clear e9 S9
            refine g_at (pc2 := 1290) rfl rfl (st2 := [vI (-1000001)]) rfl (S2 := S) rfl ?_
            refine g_ldc (pc := 1290) hX (z := -1000001) (List.mem_of_getElem? (i := 6) rfl) (by decide +kernel) dL_law_1290 ?_
            refine g_icmp_eq (pc := 1292) (tgt := 1302) hX (by first | assumption | exact inI_mk (by omega) (by omega)) (by first | assumption | exact inI_mk (by omega) (by omega)) dL_law_1292 (by decide) (fun c_1292 => ?_) (fun c_1292 => ?_)
            · skip
              refine g_iconst (pc := 1302) hX dL_law_1302 ?_
              refine g_goto (pc := 1303) (tgt := 1307) hX dL_law_1303 (by decide) ?_
              refine g_istore (pc := 1307) hX (lv2 := [(8, vI (1)), (16, vI (-1000002)), (15, vI (wh)), (12, vI (p)), (0, .ref b), (1, .ref (gw_ad w 0)), (2, vI (snP D)), (3, vI (snN D)), (4, vI (snR D)), (5, vI (k))]) (by decide) rfl dL_law_1307 ?_
              refine g_iload_n (pc := 1309) hX 7 rfl dL_law_1309 ?_
              refine g_iload (pc := 1310) hX 1 rfl dL_law_1310 ?_
              refine g_if_lt (pc := 1312) (tgt := 1319) hX (by first | assumption | exact inI_mk (by omega) (by omega)) dL_law_1312 (by decide) (fun c_1312 => ?_) (fun c_1312 => ?_)
              · skip
                refine g_iconst (pc := 1319) hX dL_law_1319 ?_
                refine g_iadd (pc := 1320) hX dL_law_1320 ?_
                refine g_istore_n (pc := 1321) hX (lv2 := [(3, vI ((snN D) + 0)), (8, vI (1)), (16, vI (-1000002)), (15, vI (wh)), (12, vI (p)), (0, .ref b), (1, .ref (gw_ad w 0)), (2, vI (snP D)), (4, vI (snR D)), (5, vI (k))]) rfl (by decide) rfl dL_law_1321 ?_
                refine g_goto (pc := 1322) (tgt := 1469) hX dL_law_1322 (by decide) ?_
                refine g_goto (pc := 1469) (tgt := 1488) hX dL_law_1469 (by decide) ?_
                refine g_sub (lv2 := [(8, vI (1)), (0, .ref b), (1, .ref (gw_ad w 0)), (2, vI (snP D)), (3, vI ((snN D) + 0)), (4, vI (snR D)), (5, vI (k))]) [1, 5, 6, 7, 0, 8, 9] rfl ?_
                exact hend D S _ _ _ hA (by omega) (by omega) (by omega) ⟨by omega, by omega⟩
              · skip
                exact absurd c_1312 (by omega)
            · skip
              exact absurd c_1292 (by omega)
    refine g_aload_n (pc := 1230) hX 5 rfl dL_law_1230 ?_
    refine g_iload (pc := 1231) hX 3 rfl dL_law_1231 ?_
    refine g_iload (pc := 1233) hX 0 rfl dL_law_1233 ?_
    refine g_iconst (pc := 1235) hX dL_law_1235 ?_
    refine g_iload (pc := 1236) hX 11 rfl dL_law_1236 ?_
    refine g_bipush (pc := 1238) hX (by decide) dL_law_1238 ?_
    refine g_ishr (pc := 1240) hX dL_law_1240 ?_
    refine g_iload (pc := 1241) hX 0 rfl dL_law_1241 ?_
    refine g_if_ne (pc := 1243) (tgt := 1252) hX (by first | assumption | exact inI_mk (by omega) (by omega)) dL_law_1243 (by decide) (fun c_1243 => ?_) (fun c_1243 => ?_)
    · skip
      refine g_sipush (pc := 1252) hX (by decide) dL_law_1252 ?_
      refine g_callT1 (pc := 1255) (As := [vI (shrZ a 7), vI (600)]) (st2 := [vI (1), vI (wh), vI (p), .ref (gw_ad w 0)]) hX (c_L_up (x := shrZ a 7) (m := 600) (by omega) (by omega)) gL_law_L_up (n := 2) (hw := rfl) (hrc := rfl) (hrs := rfl) (hd := by decide +kernel) (hR := ⟨Nat.le_of_ble_eq_true rfl, Nat.le_of_ble_eq_true rfl⟩) (hn := rfl) (hst := rfl) (hsum := Nat.le_of_ble_eq_true rfl) (hdg := dL_law_1255) ?_
      rintro _ S9 ⟨rfl, e9⟩
      rw [e9]
      clear e9 S9
      refine g_at (pc2 := 1258) rfl rfl (st2 := [vI (upZ (shrZ a 7) 600), vI (1), vI (wh), vI (p), .ref (gw_ad w 0)]) rfl (S2 := S) rfl ?_
      obtain ⟨u, eu⟩ : ∃ z : Int, z = upZ (shrZ a 7) 600 := ⟨_, rfl⟩
      refine g_at rfl rfl (st2 := [vI (u), vI (1), vI (wh), vI (p), .ref (gw_ad w 0)]) (by rw [eu]) rfl ?_
      have hu : 0 ≤ u ∧ u < 600 := by rw [eu]; exact upZ_b _ (by decide)
      refine g_iadd (pc := 1258) hX dL_law_1258 ?_
      refine g_sub (lv2 := [(15, vI (wh)), (12, vI (p)), (0, .ref b), (1, .ref (gw_ad w 0)), (2, vI (snP D)), (3, vI (snN D)), (4, vI (snR D)), (5, vI (k))]) [0, 3, 4, 5, 6, 7, 8, 9] rfl ?_
      exact j1259 (1 + u) (⟨by omega, by split <;> omega⟩)
    · skip
      refine g_sipush (pc := 1246) hX (by decide) dL_law_1246 ?_
      refine g_goto (pc := 1249) (tgt := 1255) hX dL_law_1249 (by decide) ?_
      refine g_callT1 (pc := 1255) (As := [vI (shrZ a 7), vI (9000)]) (st2 := [vI (1), vI (wh), vI (p), .ref (gw_ad w 0)]) hX (c_L_up (x := shrZ a 7) (m := 9000) (by omega) (by omega)) gL_law_L_up (n := 2) (hw := rfl) (hrc := rfl) (hrs := rfl) (hd := by decide +kernel) (hR := ⟨Nat.le_of_ble_eq_true rfl, Nat.le_of_ble_eq_true rfl⟩) (hn := rfl) (hst := rfl) (hsum := Nat.le_of_ble_eq_true rfl) (hdg := dL_law_1255) ?_
      rintro _ S9 ⟨rfl, e9⟩
      rw [e9]
      clear e9 S9
      refine g_at (pc2 := 1258) rfl rfl (st2 := [vI (upZ (shrZ a 7) 9000), vI (1), vI (wh), vI (p), .ref (gw_ad w 0)]) rfl (S2 := S) rfl ?_
      obtain ⟨u, eu⟩ : ∃ z : Int, z = upZ (shrZ a 7) 9000 := ⟨_, rfl⟩
      refine g_at rfl rfl (st2 := [vI (u), vI (1), vI (wh), vI (p), .ref (gw_ad w 0)]) (by rw [eu]) rfl ?_
      have hu : 0 ≤ u ∧ u < 9000 := by rw [eu]; exact upZ_b _ (by decide)
      refine g_iadd (pc := 1258) hX dL_law_1258 ?_
      refine g_sub (lv2 := [(15, vI (wh)), (12, vI (p)), (0, .ref b), (1, .ref (gw_ad w 0)), (2, vI (snP D)), (3, vI (snN D)), (4, vI (snR D)), (5, vI (k))]) [0, 3, 4, 5, 6, 7, 8, 9] rfl ?_
      exact j1259 (1 + u) (⟨by omega, by split <;> omega⟩)

set_option maxHeartbeats 4000000 in
set_option maxRecDepth 100000 in
theorem law_cheap {w : gW} {X : gX} {b L : Nat} {f : Nat → Int} {S : Nat → va_E} {D : SD} {k q a how : Int} (hX : gOK w room_1 X cL_law 21 RL wsL_law) (hSc : scrT w X b L f) (hL : L ≤ 260) (hf : ∀ j, inI (f j)) (hA : A0 w D S) (hk : 0 ≤ k ∧ k < 30) (hP0 : 0 < snP D) (hi : snP D ≤ k ∧ sG D 1 ≤ 3 * k)
    (hend : ∀ (D2 : SD) (S2 : Nat → va_E) (P N Q : Int), A0 w D2 S2 → P = snP D2 → N = snN D2 → Q = snR D2 → (snP D2 ≤ k + 1 ∧ sG D2 1 ≤ 3 * k + 3) → G w room_1 X 21 1488 [(8, vI 1), (0, .ref b), (1, .ref (gw_ad w 0)), (2, vI P), (3, vI N), (4, vI Q), (5, vI k)] [] S2) : G w room_1 X 21 1476 [(0, .ref b), (1, .ref (gw_ad w 0)), (2, vI (snP D)), (3, vI (snN D)), (4, vI (snR D)), (5, vI (k)), (6, vI (q)), (7, vI (a)), (8, vI (1)), (9, vI (how)), (10, vL (fpZ D))] [] S := by
  have hb := hA.b
  refine g_aload_n (pc := 1476) hX 1 rfl dL_law_1476 ?_
  refine g_iload (pc := 1477) hX 7 rfl dL_law_1477 ?_
  refine g_iload_n (pc := 1479) hX 2 rfl dL_law_1479 ?_
  refine g_callT1 (pc := 1480) (As := [vI (a), vI (snP D)]) (st2 := [.ref (gw_ad w 0)]) hX (c_L_up (x := a) (m := snP D) (by omega) (by omega)) gL_law_L_up (n := 2) (hw := rfl) (hrc := rfl) (hrs := rfl) (hd := by decide +kernel) (hR := ⟨Nat.le_of_ble_eq_true rfl, Nat.le_of_ble_eq_true rfl⟩) (hn := rfl) (hst := rfl) (hsum := Nat.le_of_ble_eq_true rfl) (hdg := dL_law_1480) ?_
  rintro _ S9 ⟨rfl, e9⟩
  rw [e9]
  clear e9 S9
  refine g_at (pc2 := 1483) rfl rfl (st2 := [vI (upZ a (snP D)), .ref (gw_ad w 0)]) rfl (S2 := S) rfl ?_
  refine g_callT1 (pc := 1483) (As := [.ref (gw_ad w 0), vI (upZ a (snP D))]) (st2 := []) hX (c_L_cheaper hA (p := upZ a (snP D)) (upZ_b _ (by omega)).1 (upZ_b _ (by omega)).2) gL_law_L_cheaper (n := 2) (hw := rfl) (hrc := rfl) (hrs := rfl) (hd := by decide +kernel) (hR := ⟨Nat.le_of_ble_eq_true rfl, Nat.le_of_ble_eq_true rfl⟩) (hn := rfl) (hst := rfl) (hsum := Nat.le_of_ble_eq_true rfl) (hdg := dL_law_1483) ?_
  rintro _ S1483 ⟨rfl, hA1483⟩
  refine g_at (pc2 := 1486) rfl rfl (st2 := [vI (bz (true))]) rfl (S2 := S1483) rfl ?_
  refine g_istore (pc := 1486) hX (lv2 := [(8, vI (bz (true))), (0, .ref b), (1, .ref (gw_ad w 0)), (2, vI (snP D)), (3, vI (snN D)), (4, vI (snR D)), (5, vI (k)), (6, vI (q)), (7, vI (a)), (9, vI (how)), (10, vL (fpZ D))]) (by decide) rfl dL_law_1486 ?_
  refine g_sub (lv2 := [(8, vI (bz (true))), (0, .ref b), (1, .ref (gw_ad w 0)), (2, vI (snP D)), (3, vI (snN D)), (4, vI (snR D)), (5, vI (k))]) [0, 1, 2, 3, 4, 5, 6] rfl ?_
  exact hend D S1483 _ _ _ hA1483 (by omega) (by omega) (by omega) ⟨by omega, by omega⟩

