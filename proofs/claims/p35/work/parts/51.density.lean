/-! ===== densities: floats over G ===== -/
section G51
variable {w : gW} {R : Room} {X : gX} {nL pc : Nat} {cc : ByteArray} {own : String} {Ts : List Cond} {lv : List (Nat × Value)} {st : List Value} {S : Nat → va_E}
abbrev fL (z : Int) : UInt32 := FP.l2f (lI z)
theorem g_l2f (hX : gOK w R X cc nL own Ts) {a : Int} (hdg : decode cc pc = .ok (.l2f, 1)) (k : G w R X nL (pc + 1) lv (.float (fL a) :: st) S) : G w R X nL pc lv (vL a :: st) S := by
  intro H locs ls hP hS hl
  exact lv_l2f hX.1 hX.2.1 hdg (k H locs ls hP hS hl)
theorem i2f_L {a : Int} (ha : inI a) : FP.i2f (iI a) = fL a := by
  have h := fl_i2f (iI a)
  rw [iI_long ha] at h
  exact h
theorem g_i2f (hX : gOK w R X cc nL own Ts) {a : Int} (ha : inI a) (hdg : decode cc pc = .ok (.i2f, 1)) (k : G w R X nL (pc + 1) lv (.float (fL a) :: st) S) : G w R X nL pc lv (vI a :: st) S := by
  intro H locs ls hP hS hl
  refine lv_i2f hX.1 hX.2.1 hdg ?_
  rw [i2f_L ha]
  exact k H locs ls hP hS hl
theorem fdiv_ok {a b : Int} (hb : 1 ≤ b ∧ b ≤ 1000000000) : vf_n32 (FP.fdiv (fL a) (fL b)) := fl_div (fun h => by
  have h2 := lI_toInt (z := b) ⟨by omega, by omega⟩
  rw [h] at h2
  have h3 : (0 : Int64).toInt = 0 := rfl
  omega)
theorem g_fdiv (hX : gOK w R X cc nL own Ts) {a b : Int} (hb : 1 ≤ b ∧ b ≤ 1000000000) (hdg : decode cc pc = .ok (.fdiv, 1)) (k : G w R X nL (pc + 1) lv (.float (FP.fdiv (fL a) (fL b)) :: st) S) : G w R X nL pc lv (.float (fL b) :: .float (fL a) :: st) S := by
  intro H locs ls hP hS hl
  exact lv_fdiv hX.1 hX.2.1 hdg (fdiv_ok hb) (k H locs ls hP hS hl)
theorem g_ldcf (hX : gOK w R X cc nL own Ts) {index : Nat} {v : UInt32} (hm : Cond.constantFloat own index v ∈ Ts) (hdg : decode cc pc = .ok (.ldc index, 2)) (k : G w R X nL (pc + 2) lv (.float v :: st) S) : G w R X nL pc lv st S := by
  intro H locs ls hP hS hl
  exact lv_ldcf hX.1 hX.2.1 hX.2.2.2.1 (hX.2.2.2.2.1 _ hm) hdg (k H locs ls hP hS hl)
theorem ldcwF {p : Program} {l : Launch} {e : Env} {R : Room} {s : State} {m : MethodId} {args : Array Value} {below : List Frame} {meth : Method} {c : Code} {locs : List Loc} {cells slots : Nat} {T : State} (X : Stand p l e R s m args below meth c T locs cells slots) (hexec : p.tables.exec = Jvm.exec) {own : String} {index : Nat} {b : UInt32} (hown : s.vm.findClass own = some m.cls)
    (hconst : (Cond.constantFloat own index b).before args s = true) {g : JFrame} (hg : g.method = m) (hdg : decode c.code g.pc = .ok (.ldc_w index, 3)) :
    ∀ target, Steps p.tables e below (T.setTop { g with pc := g.pc + 3, stack := .float b :: g.stack }) target → Steps p.tables e below (T.setTop g) target := by
  obtain ⟨k, cf, hk, hcf, hcp⟩ := Cond.constantFloat_spec hown hconst
  obtain ⟨k', hk', he⟩ := X.warmed.alike.2.2 _ _ hk
  intro target hrest
  subst hg
  jvm_step X.here [hexec, hdg, ldc_w.wp_float (s := T) (f := g) X.here.top hk' (by rw [he]; exact hcf) hcp]
  exact hrest
theorem g_ldcwf (hX : gOK w R X cc nL own Ts) {index : Nat} {v : UInt32} (hm : Cond.constantFloat own index v ∈ Ts) (hdg : decode cc pc = .ok (.ldc_w index, 3)) (k : G w R X nL (pc + 3) lv (.float v :: st) S) : G w R X nL pc lv st S := by
  intro H locs ls hP hS hl
  intro T hT X1
  obtain ⟨t, a, b⟩ := (k H locs ls hP hS hl) T hT X1
  exact ⟨t, ldcwF X1 hX.1 hX.2.2.2.1 (hX.2.2.2.2.1 _ hm) (g := F0 (gx_m X) pc ls st) rfl (by rw [hX.2.1]; exact hdg) t a, b⟩
theorem g_fret (hX : gOK w R X cc nL own Ts) {K : Value → (Nat → va_E) → Prop} {x : UInt32} (hR : gRet w X (some .float) (g1 K)) (hdg : decode cc pc = .ok (.freturn, 1)) (hp : K (.float x) S) : G w R X nL pc lv [.float x] S := by
  intro H locs ls hP hS hl
  have hlk : (gx_h X).locks = false := hR.2.1
  rw [hR.2.2]
  exact W.fret (v := x) hX.1 hX.2.1 hR.1 (fun t ht hW => ⟨⟨some (.float x), S, rfl, ⟨_, rfl, hp⟩, by rw [ht]; exact hP⟩, hS.F ht⟩) hS.2.2 hdg hlk
end G51
/-- a density -/
def denZ (real vol : Int) : UInt32 := FP.fdiv (fL real) (fL vol)

set_option maxHeartbeats 4000000 in
set_option maxRecDepth 100000 in
theorem c_X6_density {w : gW} {l : Launch} {S : Nat → va_E} {pc j : Nat} {ty : Int} {B ρ T : Int → Int} {Tr : Int → Int → Int} {D : SD} {Z : Nat → SD} (hN : gw_N w = 92) (hd : deskAt w pc j ty B ρ T Tr D Z S) (hO : deskOK ty B ρ Tr D) {p : Int} (hp : inI p) :
    GM1 w l yX6_density wsX6_density { frames := 2, cells := 0, slots := 0, locals := 45 } [.ref (gw_ad w 0), vI (p)] S
      (fun v S' => if 0 ≤ p ∧ p < snP D then v = .float (denZ (sP D p 0) (volZ (sP D p 1) (sP D p 2) (sP D p 3))) ∧ S' = S else v = .float 3212836864 ∧ S' = S) := by
  refine GM.start (own := RX6) (n := "density") (d := "(I)F") (by decide) rfl (Nat.le_of_ble_eq_true rfl) ?_
  intro X hX hR hXl
  subst hXl
  refine g_at rfl (lv2 := [(0, .ref (gw_ad w 0)), (1, vI (p))]) rfl rfl rfl ?_
  obtain ⟨⟨d0, d1, d2, d3, d4, d5, d6⟩, ⟨hS0, hB0⟩, hpa⟩ := id hd
  obtain ⟨F, g, C, E, L, Q, nR, R, nP, P0, nN, N, nK, K⟩ := D
  obtain ⟨⟨e0, e1, e2⟩, ⟨e3, e4, e5, e6, e7⟩, ⟨e8, e9, e10⟩⟩ := (id hS0)
  obtain ⟨⟨e11, e12⟩, ⟨e13, e14⟩, ⟨e15, e16⟩⟩ := (id hB0)
  change S 7 = .inr (4, [.ref (gw_ad w 8), .ref (gw_ad w 10), .ref (gw_ad w 15), .ref (gw_ad w 18), .ref (gw_ad w 20), .ref (gw_ad w 22)]) at e0
  change S 8 = .inr (3, [.ref (gw_ad w 9), vI (g 0), vI (g 1), vI (g 2), vI (g 3), vI (g 4), vI (g 5), vI (g 6), vI (g 7), vI (g 8), vI (g 9)]) at e1
  change S 9 = AI w 8 (F) at e2
  change S 10 = .inr (0, [.ref (gw_ad w 11), .ref (gw_ad w 12), .ref (gw_ad w 13), .ref (gw_ad w 14)]) at e3
  change S 11 = AI w 4 (C) at e4
  change S 12 = AI w 24 ((fl 6 L)) at e5
  change S 13 = AI w 24 ((fl 6 Q)) at e6
  change S 14 = AI w 4 (E) at e7
  change S 15 = .inr (2, [.ref (gw_ad w 16)]) at e8
  change S 16 = .inr (5, [vI (8), vI (63), .ref (gw_ad w 17), vI (nR)]) at e9
  change S 17 = AI w 504 (fl 63 R) at e10
  change S 18 = .inr (5, [vI (30), vI (22), .ref (gw_ad w 19), vI (nP)]) at e11
  change S 19 = AI w 660 (fl 22 P0) at e12
  change S 20 = .inr (5, [vI (20), vI (6), .ref (gw_ad w 21), vI (nN)]) at e13
  change S 21 = AI w 120 (fl 6 N) at e14
  change S 22 = .inr (5, [vI (20), vI (22), .ref (gw_ad w 23), vI (nK)]) at e15
  change S 23 = AI w 440 (fl 22 K) at e16
  obtain ⟨hD, hty, hBr, hBi, hrd, hTi⟩ := id hO
  obtain ⟨⟨⟨hF, hg⟩, hB, hU, hRR⟩, ⟨hnP, hPi, hPr⟩, ⟨hnN, hNi, hNr⟩, ⟨hnK, hKi, hKr⟩, hg3⟩ := id hD
  change scF F at hF
  change scG g at hg
  change bdOK C E L Q at hB
  change ruOK nR R at hU
  change ∀ i j, inI (R i j) at hRR
  change 0 ≤ nP ∧ nP ≤ 30 at hnP
  change ∀ i j, inI (P0 i j) at hPi
  change ∀ p, 0 ≤ p → p < nP → rowOK P0 p at hPr
  change 0 ≤ nN ∧ nN ≤ 20 at hnN
  change ∀ i j, inI (N i j) at hNi
  change nK = nN at hnK
  change ∀ i j, inI (K i j) at hKi
  change ∀ n, 0 ≤ n → n < nN → rowOK K n at hKr
  have hnRb : 0 ≤ nR ∧ nR ≤ 8 := hU.1
  refine g_aload_n (pc := 0) hX 0 rfl dX6_density_0 ?_
  refine g_get (pc := 1) hX (ci := 6) (fun _ h => List.mem_cons_of_mem _ (List.mem_append_left _ (List.mem_append_left _ (List.mem_append_right _ h)))) rfl 0 (by omega) d0 0 (by decide) (List.mem_of_getElem? (i := 1) rfl) rfl (v := .ref (gw_ad w 7)) rfl dX6_density_1 ?_
  refine g_get (pc := 4) hX (ci := 4) (fun _ h => List.mem_cons_of_mem _ (List.mem_append_left _ (List.mem_append_right _ h))) rfl 7 (by omega) e0 3 (by decide) (List.mem_of_getElem? (i := 2) rfl) rfl (v := .ref (gw_ad w 18)) rfl dX6_density_4 ?_
  refine g_iload_n (pc := 7) hX 1 rfl dX6_density_7 ?_
  refine g_callV1 (pc := 8) (ci := 5) (As := [vI (p)]) (st2 := []) hX 18 (by omega) e11 rfl (c_X5_has (row := p) (by omega) (by omega) e11 e12 (by first | assumption | exact inI_mk (by omega) (by omega)) (by first | assumption | exact inI_mk (by omega) (by omega))) gX6_density_X5_has (n := 1) (hw := rfl) (hrc := rfl) (hrs := rfl) (hd := by decide +kernel) (hR := ⟨Nat.le_of_ble_eq_true rfl, Nat.le_of_ble_eq_true rfl⟩) (hn := rfl) (hst := rfl) (hsum := Nat.le_of_ble_eq_true rfl) (hdg := dX6_density_8) ?_
  rintro _ S9 ⟨rfl, e9⟩
  rw [e9]
  clear e9 S9
  refine g_at (pc2 := 11) rfl rfl (st2 := [vI (bz (decide (0 ≤ p ∧ p < nP)))]) rfl (S2 := S) rfl ?_
  refine g_bif_ne (pc := 11) (tgt := 17) hX dX6_density_11 (by decide) (fun c_11 => ?_) (fun c_11 => ?_)
  · skip
    have hidx := of_decide_eq_true c_11
    have hpr := hPr p hidx.1 hidx.2
    have hp0 := hpr.1
    have hvo := volZ_b hpr.2.1 hpr.2.2.1 hpr.2.2.2.1
    refine g_aload_n (pc := 17) hX 0 rfl dX6_density_17 ?_
    refine g_get (pc := 18) hX (ci := 6) (fun _ h => List.mem_cons_of_mem _ (List.mem_append_left _ (List.mem_append_left _ (List.mem_append_right _ h)))) rfl 0 (by omega) d0 0 (by decide) (List.mem_of_getElem? (i := 1) rfl) rfl (v := .ref (gw_ad w 7)) rfl dX6_density_18 ?_
    refine g_get (pc := 21) hX (ci := 4) (fun _ h => List.mem_cons_of_mem _ (List.mem_append_left _ (List.mem_append_right _ h))) rfl 7 (by omega) e0 3 (by decide) (List.mem_of_getElem? (i := 2) rfl) rfl (v := .ref (gw_ad w 18)) rfl dX6_density_21 ?_
    refine g_iload_n (pc := 24) hX 1 rfl dX6_density_24 ?_
    refine g_callT1 (pc := 25) (As := [.ref (gw_ad w 18), vI (p)]) (st2 := []) hX (c_X6_volume (row := p) (by omega) (by omega) e11 e12 (by decide) (by decide) (by first | assumption | exact inI_mk (by omega) (by omega)) (by omega) (by omega) (by decide) hpr.2.1 hpr.2.2.1 hpr.2.2.2.1) gX6_density_X6_volume (n := 2) (hw := rfl) (hrc := rfl) (hrs := rfl) (hd := by decide +kernel) (hR := ⟨Nat.le_of_ble_eq_true rfl, Nat.le_of_ble_eq_true rfl⟩) (hn := rfl) (hst := rfl) (hsum := Nat.le_of_ble_eq_true rfl) (hdg := dX6_density_25) ?_
    rintro _ S9 ⟨rfl, e9⟩
    rw [e9]
    clear e9 S9
    refine g_at (pc2 := 28) rfl rfl (st2 := [vI (volZ (P0 p 1) (P0 p 2) (P0 p 3))]) rfl (S2 := S) rfl ?_
    refine g_istore_n (pc := 28) hX (lv2 := [(2, vI (volZ (P0 p 1) (P0 p 2) (P0 p 3))), (0, .ref (gw_ad w 0)), (1, vI (p))]) rfl (by decide) rfl dX6_density_28 ?_
    refine g_iload_n (pc := 29) hX 0 rfl dX6_density_29 ?_
    refine g_iconst (pc := 30) hX dX6_density_30 ?_
    refine g_icmp_ge (pc := 31) (tgt := 39) hX (by first | assumption | exact inI_mk (by omega) (by omega)) (by first | assumption | exact inI_mk (by omega) (by omega)) dX6_density_31 (by decide) (fun c_31 => ?_) (fun c_31 => ?_)
    · skip
      refine g_aload_n (pc := 39) hX 1 rfl dX6_density_39 ?_
      refine g_get (pc := 40) hX (ci := 6) (fun _ h => List.mem_cons_of_mem _ (List.mem_append_left _ (List.mem_append_left _ (List.mem_append_right _ h)))) rfl 0 (by omega) d0 0 (by decide) (List.mem_of_getElem? (i := 1) rfl) rfl (v := .ref (gw_ad w 7)) rfl dX6_density_40 ?_
      refine g_get (pc := 43) hX (ci := 4) (fun _ h => List.mem_cons_of_mem _ (List.mem_append_left _ (List.mem_append_right _ h))) rfl 7 (by omega) e0 3 (by decide) (List.mem_of_getElem? (i := 2) rfl) rfl (v := .ref (gw_ad w 18)) rfl dX6_density_43 ?_
      refine g_iload_n (pc := 46) hX 2 rfl dX6_density_46 ?_
      refine g_iconst (pc := 47) hX dX6_density_47 ?_
      refine g_callV1 (pc := 48) (ci := 5) (As := [vI (p), vI (0)]) (st2 := []) hX 18 (by omega) e11 rfl (c_X5_cell (row := p) (col := 0) (by omega) (by omega) e11 e12 (by decide) (by decide) (by first | assumption | exact inI_mk (by omega) (by omega)) (by first | assumption | exact inI_mk (by omega) (by omega)) (by first | assumption | exact inI_mk (by omega) (by omega)) (by first | assumption | exact inI_mk (by omega) (by omega))) gX6_density_X5_cell (n := 2) (hw := rfl) (hrc := rfl) (hrs := rfl) (hd := by decide +kernel) (hR := ⟨Nat.le_of_ble_eq_true rfl, Nat.le_of_ble_eq_true rfl⟩) (hn := rfl) (hst := rfl) (hsum := Nat.le_of_ble_eq_true rfl) (hdg := dX6_density_48) ?_
      rintro _ S9 ⟨rfl, e9⟩
      rw [e9]
      clear e9 S9
      rw [tcell_in (by omega) (by omega) (by omega) (by omega)]
      refine g_at (pc2 := 51) rfl rfl (st2 := [vI (P0 p 0)]) rfl (S2 := S) rfl ?_
      refine g_i2f (pc := 51) hX (by first | assumption | exact inI_mk (by omega) (by omega)) dX6_density_51 ?_
      refine g_iload_n (pc := 52) hX 0 rfl dX6_density_52 ?_
      refine g_i2f (pc := 53) hX (by first | assumption | exact inI_mk (by omega) (by omega)) dX6_density_53 ?_
      refine g_fdiv (pc := 54) hX ⟨by omega, by omega⟩ dX6_density_54 ?_
      refine g_at rfl rfl (st2 := [.float (denZ (P0 p 0) (volZ (P0 p 1) (P0 p 2) (P0 p 3)))]) rfl rfl ?_
      refine g_fret (pc := 55) hX hR dX6_density_55 ?_
      try simp only [decide_eq_true_eq, decide_eq_false_iff_not] at c_11 c_31
      exact (if_pos (hidx)).mpr (⟨rfl, rfl⟩)
    · skip
      exact absurd c_31 (by omega)
  · skip
    refine g_ldcf (pc := 14) hX (v := 3212836864) (List.mem_of_getElem? (i := 3) rfl) dX6_density_14 ?_
    refine g_fret (pc := 16) hX hR dX6_density_16 ?_
    try simp only [decide_eq_true_eq, decide_eq_false_iff_not] at c_11
    exact (if_neg (by show ¬ (0 ≤ p ∧ p < nP); omega)).mpr (⟨rfl, rfl⟩)
