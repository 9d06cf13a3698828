/-! ===== what acts make of a state ===== -/
def wF (D : SD) (f : Int → Int) : SD := (f, D.2)
def wG (D : SD) (g : Int → Int) : SD := (D.1, g, D.2.2)
def wC (D : SD) (c : Int → Int) (l q : Int → Int → Int) : SD := (D.1, D.2.1, c, sE D, l, q, D.2.2.2.2.2.2)
def wE (D : SD) (e : Int → Int) : SD := (D.1, D.2.1, D.2.2.1, e, D.2.2.2.2)
def wR (D : SD) (n : Int) (r : Int → Int → Int) : SD := (D.1, D.2.1, D.2.2.1, D.2.2.2.1, D.2.2.2.2.1, D.2.2.2.2.2.1, n, r, D.2.2.2.2.2.2.2.2)
def wP (D : SD) (n : Int) (p : Int → Int → Int) : SD := (D.1, D.2.1, D.2.2.1, D.2.2.2.1, D.2.2.2.2.1, D.2.2.2.2.2.1, D.2.2.2.2.2.2.1, D.2.2.2.2.2.2.2.1, n, p, D.2.2.2.2.2.2.2.2.2.2)
def wN (D : SD) (n : Int) (x : Int → Int → Int) (m : Int) (k : Int → Int → Int) : SD := (D.1, D.2.1, D.2.2.1, D.2.2.2.1, D.2.2.2.2.1, D.2.2.2.2.2.1, D.2.2.2.2.2.2.1, D.2.2.2.2.2.2.2.1, snP D, sP D, n, x, m, k)
def tkN (F g : Int → Int) : Nat → Int → Int
  | 0 => g
  | n + 1 => scPass F (tkN F g n)
theorem tkN_s (F g : Int → Int) {c : Int} (h : 0 ≤ c) : tkN F g (c + 1).toNat = scPass F (tkN F g c.toNat) := by
  rw [show (c + 1).toNat = c.toNat + 1 by omega]
  rfl
theorem tkN_ok {F g : Int → Int} (hF : scF F) (hg : scG g) (h5 : g 5 ≤ 2) : ∀ n : Nat, g 1 + n ≤ 100000 → scG (tkN F g n) ∧ tkN F g n 5 ≤ 2 ∧ tkN F g n 1 = g 1 + n
  | 0, _ => ⟨hg, h5, by show g 1 = g 1 + 0; omega⟩
  | n + 1, h => by
    obtain ⟨a, b, c⟩ := tkN_ok hF hg h5 n (by omega)
    have h2 := scG_pass hF a (by omega) b
    refine ⟨h2.1, h2.2.1, ?_⟩
    have := h2.2.2
    show scPass F (tkN F g n) 1 = _
    omega
abbrev setOK (i x : Int) : Prop := (0 ≤ i ∧ i < 8) ∧ loS i.toNat ≤ x ∧ x ≤ hiS i.toNat
def bandD (D : SD) (z l p : Int) : SD :=
  if bidx (sC D) (sL D) z l < sC D z ∧ sL D z (bidx (sC D) (sL D) z l) = l then wC D (sC D) (upd2 (sL D) z (bidx (sC D) (sL D) z l) l) (upd2 (sQ D) z (bidx (sC D) (sL D) z l) p)
  else wC D (updZ (sC D) z (sC D z + 1)) (upd2 (bopen (sC D z) (sL D) z (sC D z - bidx (sC D) (sL D) z l)) z (bidx (sC D) (sL D) z l) l) (upd2 (bopen (sC D z) (sQ D) z (sC D z - bidx (sC D) (sL D) z l)) z (bidx (sC D) (sL D) z l) p)
theorem hiS_b (n : Nat) : 0 ≤ hiS n ∧ hiS n ≤ 70000 := by
  match n with
  | 0 => exact ⟨by decide, by decide⟩
  | 1 => exact ⟨by decide, by decide⟩
  | 2 => exact ⟨by decide, by decide⟩
  | 3 => exact ⟨by decide, by decide⟩
  | 4 => exact ⟨by decide, by decide⟩
  | 5 => exact ⟨by decide, by decide⟩
  | 6 => exact ⟨by decide, by decide⟩
  | 7 => exact ⟨by decide, by decide⟩
  | n + 8 => exact ⟨Int.le_refl 0, by show (0 : Int) ≤ 70000; decide⟩
theorem loS_b (n : Nat) : -20 ≤ loS n ∧ loS n ≤ 1000 := by
  match n with
  | 0 => exact ⟨by decide, by decide⟩
  | 1 => exact ⟨by decide, by decide⟩
  | 2 => exact ⟨by decide, by decide⟩
  | 3 => exact ⟨by decide, by decide⟩
  | 4 => exact ⟨by decide, by decide⟩
  | 5 => exact ⟨by decide, by decide⟩
  | 6 => exact ⟨by decide, by decide⟩
  | 7 => exact ⟨by decide, by decide⟩
  | n + 8 => exact ⟨by show (-20 : Int) ≤ 0; decide, by show (0 : Int) ≤ 1000; decide⟩

set_option maxHeartbeats 4000000 in
set_option maxRecDepth 100000 in
theorem c_X6_remember {w : gW} {l : Launch} {S : Nat → va_E} {pc j : Nat} {ty : Int} {B ρ T : Int → Int} {Tr : Int → Int → Int} {D : SD} {Z : Nat → SD} (hN : gw_N w = 92) (hd : deskAt w pc j ty B ρ T Tr D Z S) (hh : pc ≤ 4 ∧ j < 4 ∧ ∀ i : Nat, i < 4 → cOK (Z i)) (hDc : cOK D) :
    GM0 w l yX6_remember wsX6_remember { frames := 4, cells := 0, slots := 0, locals := 91 } [.ref (gw_ad w 0)] S
      (fun S' => (∀ q : Nat, q ≠ 0 → (q < 24 ∨ 92 ≤ q) → S' q = S q) ∧ S' 0 = OD w (pcN pc) (jN j) ty ∧ pastAt w (pastN j Z D) S') := by
  refine GM.start (own := RX6) (n := "remember") (d := "()V") (by decide) rfl (Nat.le_of_ble_eq_true rfl) ?_
  intro X hX hR hXl
  subst hXl
  refine g_at rfl (lv2 := [(0, .ref (gw_ad w 0))]) rfl rfl rfl ?_
  obtain ⟨⟨d0, d1, d2, d3, d4, d5, d6⟩, hst, hpa⟩ := id hd
  obtain ⟨hpc, hj, hZ⟩ := hh
  have e7 := hst.1.1.1
  have ej := (hpa j hj).1.1.1
  refine g_aload_n (pc := 0) hX 0 rfl dX6_remember_0 ?_
  refine g_get (pc := 1) hX (ci := 6) (fun _ h => List.mem_cons_of_mem _ (List.mem_append_left _ (List.mem_append_left _ (List.mem_append_left _ (List.mem_append_left _ (List.mem_append_left _ (List.mem_append_right _ h))))))) rfl 0 (by omega) d0 3 (by decide) (List.mem_of_getElem? (i := 1) rfl) rfl (v := vI (((j : Nat) : Int))) rfl dX6_remember_1 ?_
  refine g_if_lt (pc := 4) (tgt := 47) hX (by first | assumption | exact inI_mk (by omega) (by omega)) dX6_remember_4 (by decide) (fun c_4 => ?_) (fun c_4 => ?_)
  · skip
    exact absurd c_4 (by omega)
  · skip
    refine g_aload_n (pc := 7) hX 0 rfl dX6_remember_7 ?_
    refine g_get (pc := 8) hX (ci := 6) (fun _ h => List.mem_cons_of_mem _ (List.mem_append_left _ (List.mem_append_left _ (List.mem_append_left _ (List.mem_append_left _ (List.mem_append_left _ (List.mem_append_right _ h))))))) rfl 0 (by omega) d0 3 (by decide) (List.mem_of_getElem? (i := 1) rfl) rfl (v := vI (((j : Nat) : Int))) rfl dX6_remember_8 ?_
    refine g_aload_n (pc := 11) hX 0 rfl dX6_remember_11 ?_
    refine g_get (pc := 12) hX (ci := 6) (fun _ h => List.mem_cons_of_mem _ (List.mem_append_left _ (List.mem_append_left _ (List.mem_append_left _ (List.mem_append_left _ (List.mem_append_left _ (List.mem_append_right _ h))))))) rfl 0 (by omega) d0 1 (by decide) (List.mem_of_getElem? (i := 2) rfl) rfl (v := .ref (gw_ad w 1)) rfl dX6_remember_12 ?_
    refine g_alenAR (pc := 15) hX 1 (by omega) d1 dX6_remember_15 ?_
    refine g_icmp_ge (pc := 16) (tgt := 47) hX (by first | assumption | exact inI_mk (by omega) (by omega)) (by first | assumption | exact inI_mk (by omega) (by omega)) dX6_remember_16 (by decide) (fun c_16 => ?_) (fun c_16 => ?_)
    · skip
      exact absurd c_16 (by omega)
    · skip
      refine g_aload_n (pc := 19) hX 0 rfl dX6_remember_19 ?_
      refine g_get (pc := 20) hX (ci := 6) (fun _ h => List.mem_cons_of_mem _ (List.mem_append_left _ (List.mem_append_left _ (List.mem_append_left _ (List.mem_append_left _ (List.mem_append_left _ (List.mem_append_right _ h))))))) rfl 0 (by omega) d0 1 (by decide) (List.mem_of_getElem? (i := 2) rfl) rfl (v := .ref (gw_ad w 1)) rfl dX6_remember_20 ?_
      refine g_aload_n (pc := 23) hX 0 rfl dX6_remember_23 ?_
      refine g_get (pc := 24) hX (ci := 6) (fun _ h => List.mem_cons_of_mem _ (List.mem_append_left _ (List.mem_append_left _ (List.mem_append_left _ (List.mem_append_left _ (List.mem_append_left _ (List.mem_append_right _ h))))))) rfl 0 (by omega) d0 3 (by decide) (List.mem_of_getElem? (i := 1) rfl) rfl (v := vI (((j : Nat) : Int))) rfl dX6_remember_24 ?_
      refine g_aald (pc := 27) hX 1 (by omega) d1 (by omega) (by omega) (by decide) dX6_remember_27 ?_
      refine g_at rfl rfl (st2 := [.ref (gw_ad w (24 + 17 * j))]) rfl rfl ?_
      refine g_ifnull (pc := 28) hX dX6_remember_28 ?_
      refine g_aload_n (pc := 31) hX 0 rfl dX6_remember_31 ?_
      refine g_get (pc := 32) hX (ci := 6) (fun _ h => List.mem_cons_of_mem _ (List.mem_append_left _ (List.mem_append_left _ (List.mem_append_left _ (List.mem_append_left _ (List.mem_append_left _ (List.mem_append_right _ h))))))) rfl 0 (by omega) d0 1 (by decide) (List.mem_of_getElem? (i := 2) rfl) rfl (v := .ref (gw_ad w 1)) rfl dX6_remember_32 ?_
      refine g_aload_n (pc := 35) hX 0 rfl dX6_remember_35 ?_
      refine g_get (pc := 36) hX (ci := 6) (fun _ h => List.mem_cons_of_mem _ (List.mem_append_left _ (List.mem_append_left _ (List.mem_append_left _ (List.mem_append_left _ (List.mem_append_left _ (List.mem_append_right _ h))))))) rfl 0 (by omega) d0 3 (by decide) (List.mem_of_getElem? (i := 1) rfl) rfl (v := vI (((j : Nat) : Int))) rfl dX6_remember_36 ?_
      refine g_aald (pc := 39) hX 1 (by omega) d1 (by omega) (by omega) (by decide) dX6_remember_39 ?_
      refine g_at rfl rfl (st2 := [.ref (gw_ad w (24 + 17 * j))]) rfl rfl ?_
      refine g_aload_n (pc := 40) hX 0 rfl dX6_remember_40 ?_
      refine g_get (pc := 41) hX (ci := 6) (fun _ h => List.mem_cons_of_mem _ (List.mem_append_left _ (List.mem_append_left _ (List.mem_append_left _ (List.mem_append_left _ (List.mem_append_left _ (List.mem_append_right _ h))))))) rfl 0 (by omega) d0 0 (by decide) (List.mem_of_getElem? (i := 3) rfl) rfl (v := .ref (gw_ad w 7)) rfl dX6_remember_41 ?_
      refine g_callV0 (pc := 44) (ci := 4) (As := [.ref (gw_ad w 7)]) (st2 := []) hX (24 + 17 * j) (by omega) ej rfl (c_X4_copyFrom (b := 24 + 17 * j) (b2 := 7) (D := Z j) (D2 := D) (by omega) (by omega) (by omega) (hpa j hj) hst (hZ j hj) hDc) gX6_remember_X4_copyFrom (n := 1) (hw := rfl) (hrc := rfl) (hrs := rfl) (hd := by decide +kernel) (hR := ⟨Nat.le_of_ble_eq_true rfl, Nat.le_of_ble_eq_true rfl⟩) (hn := rfl) (hst := rfl) (hsum := Nat.le_of_ble_eq_true rfl) (hdg := dX6_remember_44) ?_
      rintro S44 ⟨hf44, hst44⟩
      refine g_at (pc2 := 47) rfl rfl (st2 := []) rfl (S2 := S44) rfl ?_
      refine g_aload_n (pc := 47) hX 0 rfl dX6_remember_47 ?_
      refine g_aload_n (pc := 48) hX 0 rfl dX6_remember_48 ?_
      refine g_get (pc := 49) hX (ci := 6) (fun _ h => List.mem_cons_of_mem _ (List.mem_append_left _ (List.mem_append_left _ (List.mem_append_left _ (List.mem_append_left _ (List.mem_append_left _ (List.mem_append_right _ h))))))) rfl 0 (by omega) ((hf44 0 (by omega)).trans d0) 3 (by decide) (List.mem_of_getElem? (i := 1) rfl) rfl (v := vI (((j : Nat) : Int))) rfl dX6_remember_49 ?_
      refine g_iconst (pc := 52) hX dX6_remember_52 ?_
      refine g_iadd (pc := 53) hX dX6_remember_53 ?_
      refine g_iconst (pc := 54) hX dX6_remember_54 ?_
      refine g_icmp_ge (pc := 55) (tgt := 67) hX (by first | assumption | exact inI_mk (by omega) (by omega)) (by first | assumption | exact inI_mk (by omega) (by omega)) dX6_remember_55 (by decide) (fun c_55 => ?_) (fun c_55 => ?_)
      · skip
        refine g_iconst (pc := 67) hX dX6_remember_67 ?_
        refine g_put (pc := 68) hX (ci := 6) (fun _ h => List.mem_cons_of_mem _ (List.mem_append_left _ (List.mem_append_left _ (List.mem_append_left _ (List.mem_append_left _ (List.mem_append_left _ (List.mem_append_right _ h))))))) rfl tyX6 tyX6_ok nmX6 0 (by omega) ((hf44 0 (by omega)).trans d0) 3 (by decide) (List.mem_of_getElem? (i := 1) rfl) rfl rfl (tyX6_ok 3 (by decide)) rfl (fit_int _) (Nat.le_of_ble_eq_true rfl) dX6_remember_68 ?_
        refine g_at rfl rfl rfl (S2 := (va_up S44 0 (.inr (6, [.ref (gw_ad w 7), .ref (gw_ad w 1), vI (((pc : Nat) : Int)), vI (0), .ref (gw_ad w 2), vI (ty), .ref (gw_ad w 3), .ref (gw_ad w 5)])))) rfl ?_
        refine g_aload_n (pc := 71) hX 0 rfl dX6_remember_71 ?_
        refine g_get (pc := 72) hX (ci := 6) (fun _ h => List.mem_cons_of_mem _ (List.mem_append_left _ (List.mem_append_left _ (List.mem_append_left _ (List.mem_append_left _ (List.mem_append_left _ (List.mem_append_right _ h))))))) rfl 0 (by omega) (up_eq _ _ _) 2 (by decide) (List.mem_of_getElem? (i := 4) rfl) rfl (v := vI (((pc : Nat) : Int))) rfl dX6_remember_72 ?_
        refine g_iconst (pc := 75) hX dX6_remember_75 ?_
        refine g_icmp_ge (pc := 76) (tgt := 89) hX (by first | assumption | exact inI_mk (by omega) (by omega)) (by first | assumption | exact inI_mk (by omega) (by omega)) dX6_remember_76 (by decide) (fun c_76 => ?_) (fun c_76 => ?_)
        · skip
          refine g_vret (pc := 89) hX hR dX6_remember_89 ?_
          refine ⟨?_, ?_, ?_⟩
          · exact fun q h0 hq => (up_ne h0 ((hf44 q (by omega)).trans rfl))
          · exact ((up_eq _ _ _)).trans (by rw [show vI (0) = vI ((jN j : Nat) : Int) from vI_c (by unfold jN; split <;> omega), show vI (((pc : Nat) : Int)) = vI ((pcN pc : Nat) : Int) from vI_c (by unfold pcN; split <;> omega)])
          · intro i hi
            by_cases hij : i = j
            · subst hij
              unfold pastN
              rw [up_eq]
              exact stAt_frame (fun q h1 h2 => (up_ne (by omega) rfl)) hst44
            · unfold pastN
              unfold va_up
              rw [if_neg hij]
              exact stAt_frame (fun q h1 h2 => (up_ne (by omega) ((hf44 q (by omega)).trans rfl))) (hpa i hi)
        · skip
          refine g_aload_n (pc := 79) hX 0 rfl dX6_remember_79 ?_
          refine g_dup (pc := 80) hX rfl dX6_remember_80 ?_
          refine g_get (pc := 81) hX (ci := 6) (fun _ h => List.mem_cons_of_mem _ (List.mem_append_left _ (List.mem_append_left _ (List.mem_append_left _ (List.mem_append_left _ (List.mem_append_left _ (List.mem_append_right _ h))))))) rfl 0 (by omega) (up_eq _ _ _) 2 (by decide) (List.mem_of_getElem? (i := 4) rfl) rfl (v := vI (((pc : Nat) : Int))) rfl dX6_remember_81 ?_
          refine g_iconst (pc := 84) hX dX6_remember_84 ?_
          refine g_iadd (pc := 85) hX dX6_remember_85 ?_
          refine g_put (pc := 86) hX (ci := 6) (fun _ h => List.mem_cons_of_mem _ (List.mem_append_left _ (List.mem_append_left _ (List.mem_append_left _ (List.mem_append_left _ (List.mem_append_left _ (List.mem_append_right _ h))))))) rfl tyX6 tyX6_ok nmX6 0 (by omega) (up_eq _ _ _) 2 (by decide) (List.mem_of_getElem? (i := 4) rfl) rfl rfl (tyX6_ok 2 (by decide)) rfl (fit_int _) (Nat.le_of_ble_eq_true rfl) dX6_remember_86 ?_
          refine g_at rfl rfl rfl (S2 := (va_up (va_up S44 0 (.inr (6, [.ref (gw_ad w 7), .ref (gw_ad w 1), vI (((pc : Nat) : Int)), vI (0), .ref (gw_ad w 2), vI (ty), .ref (gw_ad w 3), .ref (gw_ad w 5)]))) 0 (.inr (6, [.ref (gw_ad w 7), .ref (gw_ad w 1), vI (((pc : Nat) : Int) + 1), vI (0), .ref (gw_ad w 2), vI (ty), .ref (gw_ad w 3), .ref (gw_ad w 5)])))) rfl ?_
          refine g_vret (pc := 89) hX hR dX6_remember_89 ?_
          refine ⟨?_, ?_, ?_⟩
          · exact fun q h0 hq => (up_ne h0 (up_ne h0 ((hf44 q (by omega)).trans rfl)))
          · exact ((up_eq _ _ _)).trans (by rw [show vI (0) = vI ((jN j : Nat) : Int) from vI_c (by unfold jN; split <;> omega), show vI (((pc : Nat) : Int) + 1) = vI ((pcN pc : Nat) : Int) from vI_c (by unfold pcN; split <;> omega)])
          · intro i hi
            by_cases hij : i = j
            · subst hij
              unfold pastN
              rw [up_eq]
              exact stAt_frame (fun q h1 h2 => (up_ne (by omega) (up_ne (by omega) rfl))) hst44
            · unfold pastN
              unfold va_up
              rw [if_neg hij]
              exact stAt_frame (fun q h1 h2 => (up_ne (by omega) (up_ne (by omega) ((hf44 q (by omega)).trans rfl)))) (hpa i hi)
      · skip
        refine g_aload_n (pc := 58) hX 0 rfl dX6_remember_58 ?_
        refine g_get (pc := 59) hX (ci := 6) (fun _ h => List.mem_cons_of_mem _ (List.mem_append_left _ (List.mem_append_left _ (List.mem_append_left _ (List.mem_append_left _ (List.mem_append_left _ (List.mem_append_right _ h))))))) rfl 0 (by omega) ((hf44 0 (by omega)).trans d0) 3 (by decide) (List.mem_of_getElem? (i := 1) rfl) rfl (v := vI (((j : Nat) : Int))) rfl dX6_remember_59 ?_
        refine g_iconst (pc := 62) hX dX6_remember_62 ?_
        refine g_iadd (pc := 63) hX dX6_remember_63 ?_
        refine g_goto (pc := 64) (tgt := 68) hX dX6_remember_64 (by decide) ?_
        refine g_put (pc := 68) hX (ci := 6) (fun _ h => List.mem_cons_of_mem _ (List.mem_append_left _ (List.mem_append_left _ (List.mem_append_left _ (List.mem_append_left _ (List.mem_append_left _ (List.mem_append_right _ h))))))) rfl tyX6 tyX6_ok nmX6 0 (by omega) ((hf44 0 (by omega)).trans d0) 3 (by decide) (List.mem_of_getElem? (i := 1) rfl) rfl rfl (tyX6_ok 3 (by decide)) rfl (fit_int _) (Nat.le_of_ble_eq_true rfl) dX6_remember_68 ?_
        refine g_at rfl rfl rfl (S2 := (va_up S44 0 (.inr (6, [.ref (gw_ad w 7), .ref (gw_ad w 1), vI (((pc : Nat) : Int)), vI (((j : Nat) : Int) + 1), .ref (gw_ad w 2), vI (ty), .ref (gw_ad w 3), .ref (gw_ad w 5)])))) rfl ?_
        refine g_aload_n (pc := 71) hX 0 rfl dX6_remember_71 ?_
        refine g_get (pc := 72) hX (ci := 6) (fun _ h => List.mem_cons_of_mem _ (List.mem_append_left _ (List.mem_append_left _ (List.mem_append_left _ (List.mem_append_left _ (List.mem_append_left _ (List.mem_append_right _ h))))))) rfl 0 (by omega) (up_eq _ _ _) 2 (by decide) (List.mem_of_getElem? (i := 4) rfl) rfl (v := vI (((pc : Nat) : Int))) rfl dX6_remember_72 ?_
        refine g_iconst (pc := 75) hX dX6_remember_75 ?_
        refine g_icmp_ge (pc := 76) (tgt := 89) hX (by first | assumption | exact inI_mk (by omega) (by omega)) (by first | assumption | exact inI_mk (by omega) (by omega)) dX6_remember_76 (by decide) (fun c_76 => ?_) (fun c_76 => ?_)
        · skip
          refine g_vret (pc := 89) hX hR dX6_remember_89 ?_
          refine ⟨?_, ?_, ?_⟩
          · exact fun q h0 hq => (up_ne h0 ((hf44 q (by omega)).trans rfl))
          · exact ((up_eq _ _ _)).trans (by rw [show vI (((j : Nat) : Int) + 1) = vI ((jN j : Nat) : Int) from vI_c (by unfold jN; split <;> omega), show vI (((pc : Nat) : Int)) = vI ((pcN pc : Nat) : Int) from vI_c (by unfold pcN; split <;> omega)])
          · intro i hi
            by_cases hij : i = j
            · subst hij
              unfold pastN
              rw [up_eq]
              exact stAt_frame (fun q h1 h2 => (up_ne (by omega) rfl)) hst44
            · unfold pastN
              unfold va_up
              rw [if_neg hij]
              exact stAt_frame (fun q h1 h2 => (up_ne (by omega) ((hf44 q (by omega)).trans rfl))) (hpa i hi)
        · skip
          refine g_aload_n (pc := 79) hX 0 rfl dX6_remember_79 ?_
          refine g_dup (pc := 80) hX rfl dX6_remember_80 ?_
          refine g_get (pc := 81) hX (ci := 6) (fun _ h => List.mem_cons_of_mem _ (List.mem_append_left _ (List.mem_append_left _ (List.mem_append_left _ (List.mem_append_left _ (List.mem_append_left _ (List.mem_append_right _ h))))))) rfl 0 (by omega) (up_eq _ _ _) 2 (by decide) (List.mem_of_getElem? (i := 4) rfl) rfl (v := vI (((pc : Nat) : Int))) rfl dX6_remember_81 ?_
          refine g_iconst (pc := 84) hX dX6_remember_84 ?_
          refine g_iadd (pc := 85) hX dX6_remember_85 ?_
          refine g_put (pc := 86) hX (ci := 6) (fun _ h => List.mem_cons_of_mem _ (List.mem_append_left _ (List.mem_append_left _ (List.mem_append_left _ (List.mem_append_left _ (List.mem_append_left _ (List.mem_append_right _ h))))))) rfl tyX6 tyX6_ok nmX6 0 (by omega) (up_eq _ _ _) 2 (by decide) (List.mem_of_getElem? (i := 4) rfl) rfl rfl (tyX6_ok 2 (by decide)) rfl (fit_int _) (Nat.le_of_ble_eq_true rfl) dX6_remember_86 ?_
          refine g_at rfl rfl rfl (S2 := (va_up (va_up S44 0 (.inr (6, [.ref (gw_ad w 7), .ref (gw_ad w 1), vI (((pc : Nat) : Int)), vI (((j : Nat) : Int) + 1), .ref (gw_ad w 2), vI (ty), .ref (gw_ad w 3), .ref (gw_ad w 5)]))) 0 (.inr (6, [.ref (gw_ad w 7), .ref (gw_ad w 1), vI (((pc : Nat) : Int) + 1), vI (((j : Nat) : Int) + 1), .ref (gw_ad w 2), vI (ty), .ref (gw_ad w 3), .ref (gw_ad w 5)])))) rfl ?_
          refine g_vret (pc := 89) hX hR dX6_remember_89 ?_
          refine ⟨?_, ?_, ?_⟩
          · exact fun q h0 hq => (up_ne h0 (up_ne h0 ((hf44 q (by omega)).trans rfl)))
          · exact ((up_eq _ _ _)).trans (by rw [show vI (((j : Nat) : Int) + 1) = vI ((jN j : Nat) : Int) from vI_c (by unfold jN; split <;> omega), show vI (((pc : Nat) : Int) + 1) = vI ((pcN pc : Nat) : Int) from vI_c (by unfold pcN; split <;> omega)])
          · intro i hi
            by_cases hij : i = j
            · subst hij
              unfold pastN
              rw [up_eq]
              exact stAt_frame (fun q h1 h2 => (up_ne (by omega) (up_ne (by omega) rfl))) hst44
            · unfold pastN
              unfold va_up
              rw [if_neg hij]
              exact stAt_frame (fun q h1 h2 => (up_ne (by omega) (up_ne (by omega) ((hf44 q (by omega)).trans rfl)))) (hpa i hi)

set_option maxHeartbeats 4000000 in
set_option maxRecDepth 100000 in
theorem c_X6_set {w : gW} {l : Launch} {S : Nat → va_E} {pc j : Nat} {ty : Int} {B ρ T : Int → Int} {Tr : Int → Int → Int} {D : SD} {Z : Nat → SD} (hN : gw_N w = 92) (hd : deskAt w pc j ty B ρ T Tr D Z S) (hO : deskOK ty B ρ Tr D) (hh : pc ≤ 4 ∧ j < 4 ∧ ∀ i : Nat, i < 4 → cOK (Z i)) {i x : Int} (hi : inI i) (hx : inI x) :
    GM1 w l yX6_set wsX6_set { frames := 5, cells := 0, slots := 0, locals := 111 } [.ref (gw_ad w 0), vI (i), vI (x)] S
      (fun v S' => if setOK i x then v = vI (sF D i) ∧ POST w S (pcN pc) (jN j) ty B ρ T Tr (wF D (updZ (sF D) i x)) (pastN j Z D) S' else v = vI (-1000001) ∧ S' = S) := by
  refine GM.start (own := RX6) (n := "set") (d := "(II)I") (by decide) rfl (Nat.le_of_ble_eq_true rfl) ?_
  intro X hX hR hXl
  subst hXl
  refine g_at rfl (lv2 := [(0, .ref (gw_ad w 0)), (1, vI (i)), (2, vI (x))]) rfl rfl rfl ?_
  obtain ⟨⟨d0, d1, d2, d3, d4, d5, d6⟩, ⟨hS0, hB0⟩, hpa⟩ := id hd
  obtain ⟨F, g, C, E, L, Q, nR, R, nP, P0, nN, N, nK, K⟩ := D
  obtain ⟨⟨e0, e1, e2⟩, ⟨e3, e4, e5, e6, e7⟩, ⟨e8, e9, e10⟩⟩ := (id hS0)
  obtain ⟨⟨e11, e12⟩, ⟨e13, e14⟩, ⟨e15, e16⟩⟩ := (id hB0)
  change S 7 = .inr (4, [.ref (gw_ad w 8), .ref (gw_ad w 10), .ref (gw_ad w 15), .ref (gw_ad w 18), .ref (gw_ad w 20), .ref (gw_ad w 22)]) at e0
  change S 8 = .inr (3, [.ref (gw_ad w 9), vI (g 0), vI (g 1), vI (g 2), vI (g 3), vI (g 4), vI (g 5), vI (g 6), vI (g 7), vI (g 8), vI (g 9)]) at e1
  change S 9 = AI w 8 (F) at e2
  change S 10 = .inr (0, [.ref (gw_ad w 11), .ref (gw_ad w 12), .ref (gw_ad w 13), .ref (gw_ad w 14)]) at e3
  change S 11 = AI w 4 (C) at e4
  change S 12 = AI w 24 ((fl 6 L)) at e5
  change S 13 = AI w 24 ((fl 6 Q)) at e6
  change S 14 = AI w 4 (E) at e7
  change S 15 = .inr (2, [.ref (gw_ad w 16)]) at e8
  change S 16 = .inr (5, [vI (8), vI (63), .ref (gw_ad w 17), vI (nR)]) at e9
  change S 17 = AI w 504 (fl 63 R) at e10
  change S 18 = .inr (5, [vI (30), vI (22), .ref (gw_ad w 19), vI (nP)]) at e11
  change S 19 = AI w 660 (fl 22 P0) at e12
  change S 20 = .inr (5, [vI (20), vI (6), .ref (gw_ad w 21), vI (nN)]) at e13
  change S 21 = AI w 120 (fl 6 N) at e14
  change S 22 = .inr (5, [vI (20), vI (22), .ref (gw_ad w 23), vI (nK)]) at e15
  change S 23 = AI w 440 (fl 22 K) at e16
  obtain ⟨hD, hty, hBr, hBi, hrd, hTi⟩ := id hO
  obtain ⟨⟨⟨hF, hg⟩, hB, hU, hRR⟩, ⟨hnP, hPi, hPr⟩, ⟨hnN, hNi, hNr⟩, ⟨hnK, hKi, hKr⟩, hg3⟩ := id hD
  change scF F at hF
  change scG g at hg
  change bdOK C E L Q at hB
  change ruOK nR R at hU
  change ∀ i j, inI (R i j) at hRR
  change 0 ≤ nP ∧ nP ≤ 30 at hnP
  change ∀ i j, inI (P0 i j) at hPi
  change ∀ p, 0 ≤ p → p < nP → rowOK P0 p at hPr
  change 0 ≤ nN ∧ nN ≤ 20 at hnN
  change ∀ i j, inI (N i j) at hNi
  change nK = nN at hnK
  change ∀ i j, inI (K i j) at hKi
  change ∀ n, 0 ≤ n → n < nN → rowOK K n at hKr
  have hnRb : 0 ≤ nR ∧ nR ≤ 8 := hU.1
  have hlo := loS_b i.toNat
  have hhi := hiS_b i.toNat
  refine g_iload_n (pc := 0) hX 1 rfl dX6_set_0 ?_
  refine g_gets (pc := 1) hX hX.2.2.2.2.2.2.2.2.1.1 (List.mem_of_getElem? (i := 1) rfl) dX6_set_1 ?_
  refine g_callT1 (pc := 4) (As := [vI (i), .ref (gw_t w 0)]) (st2 := []) hX (c_X6_isIndex_s0 (i := i) (by first | assumption | exact inI_mk (by omega) (by omega))) gX6_set_X6_isIndex (n := 2) (hw := rfl) (hrc := rfl) (hrs := rfl) (hd := by decide +kernel) (hR := ⟨Nat.le_of_ble_eq_true rfl, Nat.le_of_ble_eq_true rfl⟩) (hn := rfl) (hst := rfl) (hsum := Nat.le_of_ble_eq_true rfl) (hdg := dX6_set_4) ?_
  rintro _ S9 ⟨rfl, e9⟩
  rw [e9]
  clear e9 S9
  refine g_at (pc2 := 7) rfl rfl (st2 := [vI (bz (decide (0 ≤ i ∧ i < 8)))]) rfl (S2 := S) rfl ?_
  refine g_bif_eq (pc := 7) (tgt := 20) hX dX6_set_7 (by decide) (fun c_7 => ?_) (fun c_7 => ?_)
  · skip
    refine g_ldc (pc := 20) hX (z := -1000001) (List.mem_of_getElem? (i := 3) rfl) (by decide +kernel) dX6_set_20 ?_
    refine g_iret (pc := 22) hX hR dX6_set_22 ?_
    try simp only [decide_eq_true_eq, decide_eq_false_iff_not] at c_7
    exact (if_neg (fun z => by have z1 := z.1; have z2 := z.2; omega)).mpr ⟨rfl, rfl⟩
  · skip
    have hidx := of_decide_eq_true c_7
    refine g_iload_n (pc := 10) hX 1 rfl dX6_set_10 ?_
    refine g_gets (pc := 11) hX hX.2.2.2.2.2.2.2.2.1.2.1 (List.mem_of_getElem? (i := 2) rfl) dX6_set_11 ?_
    refine g_callT1 (pc := 14) (As := [vI (i), .ref (gw_t w 1)]) (st2 := []) hX (c_X6_isIndex_s1 (i := i) (by first | assumption | exact inI_mk (by omega) (by omega))) gX6_set_X6_isIndex (n := 2) (hw := rfl) (hrc := rfl) (hrs := rfl) (hd := by decide +kernel) (hR := ⟨Nat.le_of_ble_eq_true rfl, Nat.le_of_ble_eq_true rfl⟩) (hn := rfl) (hst := rfl) (hsum := Nat.le_of_ble_eq_true rfl) (hdg := dX6_set_14) ?_
    rintro _ S9 ⟨rfl, e9⟩
    rw [e9]
    clear e9 S9
    refine g_at (pc2 := 17) rfl rfl (st2 := [vI (bz (decide (0 ≤ i ∧ i < 8)))]) rfl (S2 := S) rfl ?_
    refine g_bif_ne (pc := 17) (tgt := 23) hX dX6_set_17 (by decide) (fun c_17 => ?_) (fun c_17 => ?_)
    · skip
      refine g_iload_n (pc := 23) hX 2 rfl dX6_set_23 ?_
      refine g_gets (pc := 24) hX hX.2.2.2.2.2.2.2.2.1.1 (List.mem_of_getElem? (i := 1) rfl) dX6_set_24 ?_
      refine g_iload_n (pc := 27) hX 1 rfl dX6_set_27 ?_
      refine g_stald (pc := 28) hX hX.2.2.2.2.2.2.2.2.1.1 (by omega) (by omega) (by decide) dX6_set_28 ?_
      refine g_gets (pc := 29) hX hX.2.2.2.2.2.2.2.2.1.2.1 (List.mem_of_getElem? (i := 2) rfl) dX6_set_29 ?_
      refine g_iload_n (pc := 32) hX 1 rfl dX6_set_32 ?_
      refine g_stald (pc := 33) hX hX.2.2.2.2.2.2.2.2.1.2.1 (by omega) (by omega) (by decide) dX6_set_33 ?_
      refine g_callT1 (pc := 34) (As := [vI (x), vI (loS (i).toNat), vI (hiS (i).toNat)]) (st2 := []) hX (c_X6_isWithin (x := x) (lo := loS (i).toNat) (hi := hiS (i).toNat) (by first | assumption | exact inI_mk (by omega) (by omega)) (by first | assumption | exact inI_mk (by omega) (by omega)) (by first | assumption | exact inI_mk (by omega) (by omega))) gX6_set_X6_isWithin (n := 3) (hw := rfl) (hrc := rfl) (hrs := rfl) (hd := by decide +kernel) (hR := ⟨Nat.le_of_ble_eq_true rfl, Nat.le_of_ble_eq_true rfl⟩) (hn := rfl) (hst := rfl) (hsum := Nat.le_of_ble_eq_true rfl) (hdg := dX6_set_34) ?_
      rintro _ S9 ⟨rfl, e9⟩
      rw [e9]
      clear e9 S9
      refine g_at (pc2 := 37) rfl rfl (st2 := [vI (bz (decide (loS (i).toNat ≤ x ∧ x ≤ hiS (i).toNat)))]) rfl (S2 := S) rfl ?_
      refine g_bif_ne (pc := 37) (tgt := 43) hX dX6_set_37 (by decide) (fun c_37 => ?_) (fun c_37 => ?_)
      · skip
        have hidx2 := of_decide_eq_true c_37
        refine g_aload_n (pc := 43) hX 0 rfl dX6_set_43 ?_
        refine g_get (pc := 44) hX (ci := 6) (fun _ h => List.mem_cons_of_mem _ (List.mem_append_left _ (List.mem_append_left _ (List.mem_append_left _ (List.mem_append_left _ (List.mem_append_left _ (List.mem_append_right _ h))))))) rfl 0 (by omega) d0 0 (by decide) (List.mem_of_getElem? (i := 4) rfl) rfl (v := .ref (gw_ad w 7)) rfl dX6_set_44 ?_
        refine g_get (pc := 47) hX (ci := 4) (fun _ h => List.mem_cons_of_mem _ (List.mem_append_left _ (List.mem_append_left _ (List.mem_append_left _ (List.mem_append_left _ (List.mem_append_right _ h)))))) rfl 7 (by omega) e0 0 (by decide) (List.mem_of_getElem? (i := 5) rfl) rfl (v := .ref (gw_ad w 8)) rfl dX6_set_47 ?_
        refine g_iload_n (pc := 50) hX 1 rfl dX6_set_50 ?_
        refine g_callV1 (pc := 51) (ci := 3) (As := [vI (i)]) (st2 := []) hX 8 (by omega) e1 rfl (c_X3_settingOf (g := g) (by omega) (by omega) e1 e2 (i := i) (by omega) (by omega)) gX6_set_X3_settingOf (n := 1) (hw := rfl) (hrc := rfl) (hrs := rfl) (hd := by decide +kernel) (hR := ⟨Nat.le_of_ble_eq_true rfl, Nat.le_of_ble_eq_true rfl⟩) (hn := rfl) (hst := rfl) (hsum := Nat.le_of_ble_eq_true rfl) (hdg := dX6_set_51) ?_
        rintro _ S9 ⟨rfl, e9⟩
        rw [e9]
        clear e9 S9
        refine g_at (pc2 := 54) rfl rfl (st2 := [vI (F i)]) rfl (S2 := S) rfl ?_
        refine g_istore_n (pc := 54) hX (lv2 := [(3, vI (F i)), (0, .ref (gw_ad w 0)), (1, vI (i)), (2, vI (x))]) rfl (by decide) rfl dX6_set_54 ?_
        refine g_aload_n (pc := 55) hX 1 rfl dX6_set_55 ?_
        refine g_callV0 (pc := 56) (ci := 6) (As := []) (st2 := []) hX 0 (by omega) d0 rfl (c_X6_remember hN hd hh hD.c) gX6_set_X6_remember (n := 0) (hw := rfl) (hrc := rfl) (hrs := rfl) (hd := by decide +kernel) (hR := ⟨Nat.le_of_ble_eq_true rfl, Nat.le_of_ble_eq_true rfl⟩) (hn := rfl) (hst := rfl) (hsum := Nat.le_of_ble_eq_true rfl) (hdg := dX6_set_56) ?_
        rintro S56 ⟨hf56, g56, hp56⟩
        refine g_at (pc2 := 59) rfl rfl (st2 := []) rfl (S2 := S56) rfl ?_
        refine g_aload_n (pc := 59) hX 1 rfl dX6_set_59 ?_
        refine g_get (pc := 60) hX (ci := 6) (fun _ h => List.mem_cons_of_mem _ (List.mem_append_left _ (List.mem_append_left _ (List.mem_append_left _ (List.mem_append_left _ (List.mem_append_left _ (List.mem_append_right _ h))))))) rfl 0 (by omega) g56 0 (by decide) (List.mem_of_getElem? (i := 4) rfl) rfl (v := .ref (gw_ad w 7)) rfl dX6_set_60 ?_
        refine g_get (pc := 63) hX (ci := 4) (fun _ h => List.mem_cons_of_mem _ (List.mem_append_left _ (List.mem_append_left _ (List.mem_append_left _ (List.mem_append_left _ (List.mem_append_right _ h)))))) rfl 7 (by omega) ((hf56 7 (by decide) (Or.inl (by decide))).trans e0) 0 (by decide) (List.mem_of_getElem? (i := 5) rfl) rfl (v := .ref (gw_ad w 8)) rfl dX6_set_63 ?_
        refine g_iload_n (pc := 66) hX 2 rfl dX6_set_66 ?_
        refine g_iload_n (pc := 67) hX 3 rfl dX6_set_67 ?_
        refine g_callV0 (pc := 68) (ci := 3) (As := [vI (i), vI (x)]) (st2 := []) hX 8 (by omega) ((hf56 8 (by decide) (Or.inl (by decide))).trans e1) rfl (c_X3_putSetting (g := g) (i := i) (x := x) (by omega) (by omega) ((hf56 8 (by decide) (Or.inl (by decide))).trans e1) ((hf56 9 (by decide) (Or.inl (by decide))).trans e2) (by omega) (by omega)) gX6_set_X3_putSetting (n := 2) (hw := rfl) (hrc := rfl) (hrs := rfl) (hd := by decide +kernel) (hR := ⟨Nat.le_of_ble_eq_true rfl, Nat.le_of_ble_eq_true rfl⟩) (hn := rfl) (hst := rfl) (hsum := Nat.le_of_ble_eq_true rfl) (hdg := dX6_set_68) ?_
        rintro _ rfl
        refine g_at (pc2 := 71) rfl rfl (st2 := []) rfl (S2 := (va_up S56 9 (AI w 8 (updZ (F) i x)))) rfl ?_
        refine g_iload_n (pc := 71) hX 0 rfl dX6_set_71 ?_
        refine g_iret (pc := 72) hX hR dX6_set_72 ?_
        try simp only [decide_eq_true_eq, decide_eq_false_iff_not] at c_7 c_17 c_37
        exact (if_pos (⟨by omega, by omega⟩)).mpr ⟨rfl, ⟨⟨⟨(up_ne (by decide) g56), (up_ne (by decide) ((hf56 1 (by decide) (Or.inl (by decide))).trans d1)), (up_ne (by decide) ((hf56 2 (by decide) (Or.inl (by decide))).trans d2)), (up_ne (by decide) ((hf56 3 (by decide) (Or.inl (by decide))).trans d3)), (up_ne (by decide) ((hf56 4 (by decide) (Or.inl (by decide))).trans d4)), (up_ne (by decide) ((hf56 5 (by decide) (Or.inl (by decide))).trans d5)), (up_ne (by decide) ((hf56 6 (by decide) (Or.inl (by decide))).trans d6))⟩, ⟨⟨⟨(up_ne (by decide) ((hf56 7 (by decide) (Or.inl (by decide))).trans e0)), (up_ne (by decide) ((hf56 8 (by decide) (Or.inl (by decide))).trans e1)), (up_eq _ _ _)⟩, ⟨(up_ne (by decide) ((hf56 10 (by decide) (Or.inl (by decide))).trans e3)), (up_ne (by decide) ((hf56 11 (by decide) (Or.inl (by decide))).trans e4)), (up_ne (by decide) ((hf56 12 (by decide) (Or.inl (by decide))).trans e5)), (up_ne (by decide) ((hf56 13 (by decide) (Or.inl (by decide))).trans e6)), (up_ne (by decide) ((hf56 14 (by decide) (Or.inl (by decide))).trans e7))⟩, ⟨(up_ne (by decide) ((hf56 15 (by decide) (Or.inl (by decide))).trans e8)), (up_ne (by decide) ((hf56 16 (by decide) (Or.inl (by decide))).trans e9)), (up_ne (by decide) ((hf56 17 (by decide) (Or.inl (by decide))).trans e10))⟩⟩, ⟨⟨(up_ne (by decide) ((hf56 18 (by decide) (Or.inl (by decide))).trans e11)), (up_ne (by decide) ((hf56 19 (by decide) (Or.inl (by decide))).trans e12))⟩, ⟨(up_ne (by decide) ((hf56 20 (by decide) (Or.inl (by decide))).trans e13)), (up_ne (by decide) ((hf56 21 (by decide) (Or.inl (by decide))).trans e14))⟩, ⟨(up_ne (by decide) ((hf56 22 (by decide) (Or.inl (by decide))).trans e15)), (up_ne (by decide) ((hf56 23 (by decide) (Or.inl (by decide))).trans e16))⟩⟩⟩, pastAt_frame (fun q hq => (up_ne (by omega) rfl)) hp56⟩, fun q hq => (up_ne (by omega) ((hf56 q (by omega) (by omega)).trans rfl))⟩⟩
      · skip
        refine g_ldc (pc := 40) hX (z := -1000001) (List.mem_of_getElem? (i := 3) rfl) (by decide +kernel) dX6_set_40 ?_
        refine g_iret (pc := 42) hX hR dX6_set_42 ?_
        try simp only [decide_eq_true_eq, decide_eq_false_iff_not] at c_7 c_17 c_37
        exact (if_neg (fun z => by have z1 := z.1; have z2 := z.2; omega)).mpr ⟨rfl, rfl⟩
    · skip
      refine g_ldc (pc := 20) hX (z := -1000001) (List.mem_of_getElem? (i := 3) rfl) (by decide +kernel) dX6_set_20 ?_
      refine g_iret (pc := 22) hX hR dX6_set_22 ?_
      try simp only [decide_eq_true_eq, decide_eq_false_iff_not] at c_7 c_17
      exact (if_neg (fun z => by have z1 := z.1; have z2 := z.2; omega)).mpr ⟨rfl, rfl⟩

set_option maxHeartbeats 4000000 in
set_option maxRecDepth 100000 in
theorem c_X6_load {w : gW} {l : Launch} {S : Nat → va_E} {pc j : Nat} {ty : Int} {B ρ T : Int → Int} {Tr : Int → Int → Int} {D : SD} {Z : Nat → SD} (hN : gw_N w = 92) (hd : deskAt w pc j ty B ρ T Tr D Z S) (hO : deskOK ty B ρ Tr D) (hh : pc ≤ 4 ∧ j < 4 ∧ ∀ i : Nat, i < 4 → cOK (Z i)) {x : Int} (hx : inI x) :
    GM1 w l yX6_load wsX6_load { frames := 5, cells := 0, slots := 0, locals := 111 } [.ref (gw_ad w 0), vI (x)] S
      (fun v S' => if 0 ≤ x ∧ x ≤ 100000 then v = vI (sG D 0) ∧ POST w S (pcN pc) (jN j) ty B ρ T Tr (wG D (scLoad (sG D) x)) (pastN j Z D) S' else v = vI (-1000001) ∧ S' = S) := by
  refine GM.start (own := RX6) (n := "load") (d := "(I)I") (by decide) rfl (Nat.le_of_ble_eq_true rfl) ?_
  intro X hX hR hXl
  subst hXl
  refine g_at rfl (lv2 := [(0, .ref (gw_ad w 0)), (1, vI (x))]) rfl rfl rfl ?_
  obtain ⟨⟨d0, d1, d2, d3, d4, d5, d6⟩, ⟨hS0, hB0⟩, hpa⟩ := id hd
  obtain ⟨F, g, C, E, L, Q, nR, R, nP, P0, nN, N, nK, K⟩ := D
  obtain ⟨⟨e0, e1, e2⟩, ⟨e3, e4, e5, e6, e7⟩, ⟨e8, e9, e10⟩⟩ := (id hS0)
  obtain ⟨⟨e11, e12⟩, ⟨e13, e14⟩, ⟨e15, e16⟩⟩ := (id hB0)
  change S 7 = .inr (4, [.ref (gw_ad w 8), .ref (gw_ad w 10), .ref (gw_ad w 15), .ref (gw_ad w 18), .ref (gw_ad w 20), .ref (gw_ad w 22)]) at e0
  change S 8 = .inr (3, [.ref (gw_ad w 9), vI (g 0), vI (g 1), vI (g 2), vI (g 3), vI (g 4), vI (g 5), vI (g 6), vI (g 7), vI (g 8), vI (g 9)]) at e1
  change S 9 = AI w 8 (F) at e2
  change S 10 = .inr (0, [.ref (gw_ad w 11), .ref (gw_ad w 12), .ref (gw_ad w 13), .ref (gw_ad w 14)]) at e3
  change S 11 = AI w 4 (C) at e4
  change S 12 = AI w 24 ((fl 6 L)) at e5
  change S 13 = AI w 24 ((fl 6 Q)) at e6
  change S 14 = AI w 4 (E) at e7
  change S 15 = .inr (2, [.ref (gw_ad w 16)]) at e8
  change S 16 = .inr (5, [vI (8), vI (63), .ref (gw_ad w 17), vI (nR)]) at e9
  change S 17 = AI w 504 (fl 63 R) at e10
  change S 18 = .inr (5, [vI (30), vI (22), .ref (gw_ad w 19), vI (nP)]) at e11
  change S 19 = AI w 660 (fl 22 P0) at e12
  change S 20 = .inr (5, [vI (20), vI (6), .ref (gw_ad w 21), vI (nN)]) at e13
  change S 21 = AI w 120 (fl 6 N) at e14
  change S 22 = .inr (5, [vI (20), vI (22), .ref (gw_ad w 23), vI (nK)]) at e15
  change S 23 = AI w 440 (fl 22 K) at e16
  obtain ⟨hD, hty, hBr, hBi, hrd, hTi⟩ := id hO
  obtain ⟨⟨⟨hF, hg⟩, hB, hU, hRR⟩, ⟨hnP, hPi, hPr⟩, ⟨hnN, hNi, hNr⟩, ⟨hnK, hKi, hKr⟩, hg3⟩ := id hD
  change scF F at hF
  change scG g at hg
  change bdOK C E L Q at hB
  change ruOK nR R at hU
  change ∀ i j, inI (R i j) at hRR
  change 0 ≤ nP ∧ nP ≤ 30 at hnP
  change ∀ i j, inI (P0 i j) at hPi
  change ∀ p, 0 ≤ p → p < nP → rowOK P0 p at hPr
  change 0 ≤ nN ∧ nN ≤ 20 at hnN
  change ∀ i j, inI (N i j) at hNi
  change nK = nN at hnK
  change ∀ i j, inI (K i j) at hKi
  change ∀ n, 0 ≤ n → n < nN → rowOK K n at hKr
  have hnRb : 0 ≤ nR ∧ nR ≤ 8 := hU.1
  refine g_iload_n (pc := 0) hX 1 rfl dX6_load_0 ?_
  refine g_iconst (pc := 1) hX dX6_load_1 ?_
  refine g_ldc (pc := 2) hX (z := 100000) (List.mem_of_getElem? (i := 1) rfl) (by decide +kernel) dX6_load_2 ?_
  refine g_callT1 (pc := 4) (As := [vI (x), vI (0), vI (100000)]) (st2 := []) hX (c_X6_isWithin (x := x) (lo := 0) (hi := 100000) (by first | assumption | exact inI_mk (by omega) (by omega)) (by first | assumption | exact inI_mk (by omega) (by omega)) (by first | assumption | exact inI_mk (by omega) (by omega))) gX6_load_X6_isWithin (n := 3) (hw := rfl) (hrc := rfl) (hrs := rfl) (hd := by decide +kernel) (hR := ⟨Nat.le_of_ble_eq_true rfl, Nat.le_of_ble_eq_true rfl⟩) (hn := rfl) (hst := rfl) (hsum := Nat.le_of_ble_eq_true rfl) (hdg := dX6_load_4) ?_
  rintro _ S9 ⟨rfl, e9⟩
  rw [e9]
  clear e9 S9
  refine g_at (pc2 := 7) rfl rfl (st2 := [vI (bz (decide (0 ≤ x ∧ x ≤ 100000)))]) rfl (S2 := S) rfl ?_
  refine g_bif_ne (pc := 7) (tgt := 13) hX dX6_load_7 (by decide) (fun c_7 => ?_) (fun c_7 => ?_)
  · skip
    refine g_aload_n (pc := 13) hX 0 rfl dX6_load_13 ?_
    refine g_get (pc := 14) hX (ci := 6) (fun _ h => List.mem_cons_of_mem _ (List.mem_append_left _ (List.mem_append_left _ (List.mem_append_left _ (List.mem_append_left _ (List.mem_append_left _ (List.mem_append_right _ h))))))) rfl 0 (by omega) d0 0 (by decide) (List.mem_of_getElem? (i := 3) rfl) rfl (v := .ref (gw_ad w 7)) rfl dX6_load_14 ?_
    refine g_get (pc := 17) hX (ci := 4) (fun _ h => List.mem_cons_of_mem _ (List.mem_append_left _ (List.mem_append_left _ (List.mem_append_left _ (List.mem_append_left _ (List.mem_append_right _ h)))))) rfl 7 (by omega) e0 0 (by decide) (List.mem_of_getElem? (i := 4) rfl) rfl (v := .ref (gw_ad w 8)) rfl dX6_load_17 ?_
    refine g_get (pc := 20) hX (ci := 3) (fun _ h => List.mem_cons_of_mem _ (List.mem_append_left _ (List.mem_append_left _ (List.mem_append_left _ (List.mem_append_right _ h))))) rfl 8 (by omega) e1 1 (by decide) (List.mem_of_getElem? (i := 5) rfl) rfl (v := vI (g 0)) rfl dX6_load_20 ?_
    refine g_istore_n (pc := 23) hX (lv2 := [(2, vI (g 0)), (0, .ref (gw_ad w 0)), (1, vI (x))]) rfl (by decide) rfl dX6_load_23 ?_
    refine g_aload_n (pc := 24) hX 1 rfl dX6_load_24 ?_
    refine g_callV0 (pc := 25) (ci := 6) (As := []) (st2 := []) hX 0 (by omega) d0 rfl (c_X6_remember hN hd hh hD.c) gX6_load_X6_remember (n := 0) (hw := rfl) (hrc := rfl) (hrs := rfl) (hd := by decide +kernel) (hR := ⟨Nat.le_of_ble_eq_true rfl, Nat.le_of_ble_eq_true rfl⟩) (hn := rfl) (hst := rfl) (hsum := Nat.le_of_ble_eq_true rfl) (hdg := dX6_load_25) ?_
    rintro S25 ⟨hf25, g25, hp25⟩
    refine g_at (pc2 := 28) rfl rfl (st2 := []) rfl (S2 := S25) rfl ?_
    refine g_aload_n (pc := 28) hX 1 rfl dX6_load_28 ?_
    refine g_get (pc := 29) hX (ci := 6) (fun _ h => List.mem_cons_of_mem _ (List.mem_append_left _ (List.mem_append_left _ (List.mem_append_left _ (List.mem_append_left _ (List.mem_append_left _ (List.mem_append_right _ h))))))) rfl 0 (by omega) g25 0 (by decide) (List.mem_of_getElem? (i := 3) rfl) rfl (v := .ref (gw_ad w 7)) rfl dX6_load_29 ?_
    refine g_get (pc := 32) hX (ci := 4) (fun _ h => List.mem_cons_of_mem _ (List.mem_append_left _ (List.mem_append_left _ (List.mem_append_left _ (List.mem_append_left _ (List.mem_append_right _ h)))))) rfl 7 (by omega) ((hf25 7 (by decide) (Or.inl (by decide))).trans e0) 0 (by decide) (List.mem_of_getElem? (i := 4) rfl) rfl (v := .ref (gw_ad w 8)) rfl dX6_load_32 ?_
    refine g_iload_n (pc := 35) hX 2 rfl dX6_load_35 ?_
    refine g_callV0 (pc := 36) (ci := 3) (As := [vI (x)]) (st2 := []) hX 8 (by omega) ((hf25 8 (by decide) (Or.inl (by decide))).trans e1) rfl (c_X3_putLoad (g := g) (x := x) (by omega) (by omega) ((hf25 8 (by decide) (Or.inl (by decide))).trans e1) ((hf25 9 (by decide) (Or.inl (by decide))).trans e2)) gX6_load_X3_putLoad (n := 1) (hw := rfl) (hrc := rfl) (hrs := rfl) (hd := by decide +kernel) (hR := ⟨Nat.le_of_ble_eq_true rfl, Nat.le_of_ble_eq_true rfl⟩) (hn := rfl) (hst := rfl) (hsum := Nat.le_of_ble_eq_true rfl) (hdg := dX6_load_36) ?_
    rintro _ rfl
    refine g_at (pc2 := 39) rfl rfl (st2 := []) rfl (S2 := (va_up S25 8 (.inr (3, [.ref (gw_ad w 9), vI ((scLoad g x) 0), vI ((scLoad g x) 1), vI ((scLoad g x) 2), vI ((scLoad g x) 3), vI ((scLoad g x) 4), vI ((scLoad g x) 5), vI ((scLoad g x) 6), vI ((scLoad g x) 7), vI ((scLoad g x) 8), vI ((scLoad g x) 9)])))) rfl ?_
    refine g_iload_n (pc := 39) hX 0 rfl dX6_load_39 ?_
    refine g_iret (pc := 40) hX hR dX6_load_40 ?_
    try simp only [decide_eq_true_eq, decide_eq_false_iff_not] at c_7
    exact (if_pos (by omega)).mpr ⟨rfl, ⟨⟨⟨(up_ne (by decide) g25), (up_ne (by decide) ((hf25 1 (by decide) (Or.inl (by decide))).trans d1)), (up_ne (by decide) ((hf25 2 (by decide) (Or.inl (by decide))).trans d2)), (up_ne (by decide) ((hf25 3 (by decide) (Or.inl (by decide))).trans d3)), (up_ne (by decide) ((hf25 4 (by decide) (Or.inl (by decide))).trans d4)), (up_ne (by decide) ((hf25 5 (by decide) (Or.inl (by decide))).trans d5)), (up_ne (by decide) ((hf25 6 (by decide) (Or.inl (by decide))).trans d6))⟩, ⟨⟨⟨(up_ne (by decide) ((hf25 7 (by decide) (Or.inl (by decide))).trans e0)), (up_eq _ _ _), (up_ne (by decide) ((hf25 9 (by decide) (Or.inl (by decide))).trans e2))⟩, ⟨(up_ne (by decide) ((hf25 10 (by decide) (Or.inl (by decide))).trans e3)), (up_ne (by decide) ((hf25 11 (by decide) (Or.inl (by decide))).trans e4)), (up_ne (by decide) ((hf25 12 (by decide) (Or.inl (by decide))).trans e5)), (up_ne (by decide) ((hf25 13 (by decide) (Or.inl (by decide))).trans e6)), (up_ne (by decide) ((hf25 14 (by decide) (Or.inl (by decide))).trans e7))⟩, ⟨(up_ne (by decide) ((hf25 15 (by decide) (Or.inl (by decide))).trans e8)), (up_ne (by decide) ((hf25 16 (by decide) (Or.inl (by decide))).trans e9)), (up_ne (by decide) ((hf25 17 (by decide) (Or.inl (by decide))).trans e10))⟩⟩, ⟨⟨(up_ne (by decide) ((hf25 18 (by decide) (Or.inl (by decide))).trans e11)), (up_ne (by decide) ((hf25 19 (by decide) (Or.inl (by decide))).trans e12))⟩, ⟨(up_ne (by decide) ((hf25 20 (by decide) (Or.inl (by decide))).trans e13)), (up_ne (by decide) ((hf25 21 (by decide) (Or.inl (by decide))).trans e14))⟩, ⟨(up_ne (by decide) ((hf25 22 (by decide) (Or.inl (by decide))).trans e15)), (up_ne (by decide) ((hf25 23 (by decide) (Or.inl (by decide))).trans e16))⟩⟩⟩, pastAt_frame (fun q hq => (up_ne (by omega) rfl)) hp25⟩, fun q hq => (up_ne (by omega) ((hf25 q (by omega) (by omega)).trans rfl))⟩⟩
  · skip
    refine g_ldc (pc := 10) hX (z := -1000001) (List.mem_of_getElem? (i := 2) rfl) (by decide +kernel) dX6_load_10 ?_
    refine g_iret (pc := 12) hX hR dX6_load_12 ?_
    try simp only [decide_eq_true_eq, decide_eq_false_iff_not] at c_7
    exact (if_neg (by omega)).mpr ⟨rfl, rfl⟩

set_option maxHeartbeats 4000000 in
set_option maxRecDepth 100000 in
theorem c_X6_zero {w : gW} {l : Launch} {S : Nat → va_E} {pc j : Nat} {ty : Int} {B ρ T : Int → Int} {Tr : Int → Int → Int} {D : SD} {Z : Nat → SD} (hN : gw_N w = 92) (hd : deskAt w pc j ty B ρ T Tr D Z S) (hO : deskOK ty B ρ Tr D) (hh : pc ≤ 4 ∧ j < 4 ∧ ∀ i : Nat, i < 4 → cOK (Z i)) :
    GM1 w l yX6_zero wsX6_zero { frames := 5, cells := 0, slots := 0, locals := 111 } [.ref (gw_ad w 0)] S
      (fun v S' => if scSteady (sF D) (sG D) = true ∧ scNear (sF D) (sG D) = true then v = vI (sG D 2) ∧ POST w S (pcN pc) (jN j) ty B ρ T Tr (wG D (updZ (updZ (sG D) 2 (scRaw (sF D) (sG D))) 3 0)) (pastN j Z D) S' else v = vI (-1000002) ∧ S' = S) := by
  refine GM.start (own := RX6) (n := "zero") (d := "()I") (by decide) rfl (Nat.le_of_ble_eq_true rfl) ?_
  intro X hX hR hXl
  subst hXl
  refine g_at rfl (lv2 := [(0, .ref (gw_ad w 0))]) rfl rfl rfl ?_
  obtain ⟨⟨d0, d1, d2, d3, d4, d5, d6⟩, ⟨hS0, hB0⟩, hpa⟩ := id hd
  obtain ⟨F, g, C, E, L, Q, nR, R, nP, P0, nN, N, nK, K⟩ := D
  obtain ⟨⟨e0, e1, e2⟩, ⟨e3, e4, e5, e6, e7⟩, ⟨e8, e9, e10⟩⟩ := (id hS0)
  obtain ⟨⟨e11, e12⟩, ⟨e13, e14⟩, ⟨e15, e16⟩⟩ := (id hB0)
  change S 7 = .inr (4, [.ref (gw_ad w 8), .ref (gw_ad w 10), .ref (gw_ad w 15), .ref (gw_ad w 18), .ref (gw_ad w 20), .ref (gw_ad w 22)]) at e0
  change S 8 = .inr (3, [.ref (gw_ad w 9), vI (g 0), vI (g 1), vI (g 2), vI (g 3), vI (g 4), vI (g 5), vI (g 6), vI (g 7), vI (g 8), vI (g 9)]) at e1
  change S 9 = AI w 8 (F) at e2
  change S 10 = .inr (0, [.ref (gw_ad w 11), .ref (gw_ad w 12), .ref (gw_ad w 13), .ref (gw_ad w 14)]) at e3
  change S 11 = AI w 4 (C) at e4
  change S 12 = AI w 24 ((fl 6 L)) at e5
  change S 13 = AI w 24 ((fl 6 Q)) at e6
  change S 14 = AI w 4 (E) at e7
  change S 15 = .inr (2, [.ref (gw_ad w 16)]) at e8
  change S 16 = .inr (5, [vI (8), vI (63), .ref (gw_ad w 17), vI (nR)]) at e9
  change S 17 = AI w 504 (fl 63 R) at e10
  change S 18 = .inr (5, [vI (30), vI (22), .ref (gw_ad w 19), vI (nP)]) at e11
  change S 19 = AI w 660 (fl 22 P0) at e12
  change S 20 = .inr (5, [vI (20), vI (6), .ref (gw_ad w 21), vI (nN)]) at e13
  change S 21 = AI w 120 (fl 6 N) at e14
  change S 22 = .inr (5, [vI (20), vI (22), .ref (gw_ad w 23), vI (nK)]) at e15
  change S 23 = AI w 440 (fl 22 K) at e16
  obtain ⟨hD, hty, hBr, hBi, hrd, hTi⟩ := id hO
  obtain ⟨⟨⟨hF, hg⟩, hB, hU, hRR⟩, ⟨hnP, hPi, hPr⟩, ⟨hnN, hNi, hNr⟩, ⟨hnK, hKi, hKr⟩, hg3⟩ := id hD
  change scF F at hF
  change scG g at hg
  change bdOK C E L Q at hB
  change ruOK nR R at hU
  change ∀ i j, inI (R i j) at hRR
  change 0 ≤ nP ∧ nP ≤ 30 at hnP
  change ∀ i j, inI (P0 i j) at hPi
  change ∀ p, 0 ≤ p → p < nP → rowOK P0 p at hPr
  change 0 ≤ nN ∧ nN ≤ 20 at hnN
  change ∀ i j, inI (N i j) at hNi
  change nK = nN at hnK
  change ∀ i j, inI (K i j) at hKi
  change ∀ n, 0 ≤ n → n < nN → rowOK K n at hKr
  have hnRb : 0 ≤ nR ∧ nR ≤ 8 := hU.1
  refine g_aload_n (pc := 0) hX 0 rfl dX6_zero_0 ?_
  refine g_get (pc := 1) hX (ci := 6) (fun _ h => List.mem_cons_of_mem _ (List.mem_append_left _ (List.mem_append_left _ (List.mem_append_left _ (List.mem_append_left _ (List.mem_append_left _ (List.mem_append_right _ h))))))) rfl 0 (by omega) d0 0 (by decide) (List.mem_of_getElem? (i := 1) rfl) rfl (v := .ref (gw_ad w 7)) rfl dX6_zero_1 ?_
  refine g_get (pc := 4) hX (ci := 4) (fun _ h => List.mem_cons_of_mem _ (List.mem_append_left _ (List.mem_append_left _ (List.mem_append_left _ (List.mem_append_left _ (List.mem_append_right _ h)))))) rfl 7 (by omega) e0 0 (by decide) (List.mem_of_getElem? (i := 2) rfl) rfl (v := .ref (gw_ad w 8)) rfl dX6_zero_4 ?_
  refine g_astore_n (pc := 7) hX (lv2 := [(1, .ref (gw_ad w 8)), (0, .ref (gw_ad w 0))]) rfl (by decide) rfl dX6_zero_7 ?_
  refine g_aload_n (pc := 8) hX 0 rfl dX6_zero_8 ?_
  refine g_callV1 (pc := 9) (ci := 3) (As := []) (st2 := []) hX 8 (by omega) e1 rfl (c_X3_isSteady (by omega) (by omega) e1 e2 hF hg) gX6_zero_X3_isSteady (n := 0) (hw := rfl) (hrc := rfl) (hrs := rfl) (hd := by decide +kernel) (hR := ⟨Nat.le_of_ble_eq_true rfl, Nat.le_of_ble_eq_true rfl⟩) (hn := rfl) (hst := rfl) (hsum := Nat.le_of_ble_eq_true rfl) (hdg := dX6_zero_9) ?_
  rintro _ S9 ⟨rfl, e9⟩
  rw [e9]
  clear e9 S9
  refine g_at (pc2 := 12) rfl rfl (st2 := [vI (bz (scSteady F g))]) rfl (S2 := S) rfl ?_
  refine g_bif_eq (pc := 12) (tgt := 22) hX dX6_zero_12 (by decide) (fun c_12 => ?_) (fun c_12 => ?_)
  · skip
    refine g_ldc (pc := 22) hX (z := -1000002) (List.mem_of_getElem? (i := 3) rfl) (by decide +kernel) dX6_zero_22 ?_
    refine g_iret (pc := 24) hX hR dX6_zero_24 ?_
    try simp only [decide_eq_true_eq, decide_eq_false_iff_not] at c_12
    exact (if_neg (fun z => absurd (show scSteady F g = true from z.1) (by rw [c_12]; decide))).mpr ⟨rfl, rfl⟩
  · skip
    refine g_aload_n (pc := 15) hX 0 rfl dX6_zero_15 ?_
    refine g_callV1 (pc := 16) (ci := 3) (As := []) (st2 := []) hX 8 (by omega) e1 rfl (c_X3_isNearZero (by omega) (by omega) e1 e2 hF hg) gX6_zero_X3_isNearZero (n := 0) (hw := rfl) (hrc := rfl) (hrs := rfl) (hd := by decide +kernel) (hR := ⟨Nat.le_of_ble_eq_true rfl, Nat.le_of_ble_eq_true rfl⟩) (hn := rfl) (hst := rfl) (hsum := Nat.le_of_ble_eq_true rfl) (hdg := dX6_zero_16) ?_
    rintro _ S9 ⟨rfl, e9⟩
    rw [e9]
    clear e9 S9
    refine g_at (pc2 := 19) rfl rfl (st2 := [vI (bz (scNear F g))]) rfl (S2 := S) rfl ?_
    refine g_bif_ne (pc := 19) (tgt := 25) hX dX6_zero_19 (by decide) (fun c_19 => ?_) (fun c_19 => ?_)
    · skip
      refine g_aload_n (pc := 25) hX 0 rfl dX6_zero_25 ?_
      refine g_get (pc := 26) hX (ci := 3) (fun _ h => List.mem_cons_of_mem _ (List.mem_append_left _ (List.mem_append_left _ (List.mem_append_left _ (List.mem_append_right _ h))))) rfl 8 (by omega) e1 3 (by decide) (List.mem_of_getElem? (i := 4) rfl) rfl (v := vI (g 2)) rfl dX6_zero_26 ?_
      refine g_istore_n (pc := 29) hX (lv2 := [(2, vI (g 2)), (1, .ref (gw_ad w 8)), (0, .ref (gw_ad w 0))]) rfl (by decide) rfl dX6_zero_29 ?_
      refine g_aload_n (pc := 30) hX 2 rfl dX6_zero_30 ?_
      refine g_callV0 (pc := 31) (ci := 6) (As := []) (st2 := []) hX 0 (by omega) d0 rfl (c_X6_remember hN hd hh hD.c) gX6_zero_X6_remember (n := 0) (hw := rfl) (hrc := rfl) (hrs := rfl) (hd := by decide +kernel) (hR := ⟨Nat.le_of_ble_eq_true rfl, Nat.le_of_ble_eq_true rfl⟩) (hn := rfl) (hst := rfl) (hsum := Nat.le_of_ble_eq_true rfl) (hdg := dX6_zero_31) ?_
      rintro S31 ⟨hf31, g31, hp31⟩
      refine g_at (pc2 := 34) rfl rfl (st2 := []) rfl (S2 := S31) rfl ?_
      refine g_aload_n (pc := 34) hX 1 rfl dX6_zero_34 ?_
      refine g_aload_n (pc := 35) hX 1 rfl dX6_zero_35 ?_
      refine g_callV1 (pc := 36) (ci := 3) (As := []) (st2 := [.ref (gw_ad w 8)]) hX 8 (by omega) ((hf31 8 (by decide) (Or.inl (by decide))).trans e1) rfl (c_X3_rawReading (by omega) (by omega) ((hf31 8 (by decide) (Or.inl (by decide))).trans e1) ((hf31 9 (by decide) (Or.inl (by decide))).trans e2) hF hg) gX6_zero_X3_rawReading (n := 0) (hw := rfl) (hrc := rfl) (hrs := rfl) (hd := by decide +kernel) (hR := ⟨Nat.le_of_ble_eq_true rfl, Nat.le_of_ble_eq_true rfl⟩) (hn := rfl) (hst := rfl) (hsum := Nat.le_of_ble_eq_true rfl) (hdg := dX6_zero_36) ?_
      rintro _ S9 ⟨rfl, e9⟩
      rw [e9]
      clear e9 S9
      refine g_at (pc2 := 39) rfl rfl (st2 := [vI (scRaw F g), .ref (gw_ad w 8)]) rfl (S2 := S31) rfl ?_
      refine g_put (pc := 39) hX (ci := 3) (fun _ h => List.mem_cons_of_mem _ (List.mem_append_left _ (List.mem_append_left _ (List.mem_append_left _ (List.mem_append_right _ h))))) rfl tyX3 tyX3_ok nmX3 8 (by omega) ((hf31 8 (by decide) (Or.inl (by decide))).trans e1) 3 (by decide) (List.mem_of_getElem? (i := 4) rfl) rfl rfl (tyX3_ok 3 (by decide)) rfl (fit_int _) (Nat.le_of_ble_eq_true rfl) dX6_zero_39 ?_
      refine g_at rfl rfl rfl (S2 := (va_up S31 8 (.inr (3, [.ref (gw_ad w 9), vI (g 0), vI (g 1), vI (scRaw F g), vI (g 3), vI (g 4), vI (g 5), vI (g 6), vI (g 7), vI (g 8), vI (g 9)])))) rfl ?_
      refine g_aload_n (pc := 42) hX 1 rfl dX6_zero_42 ?_
      refine g_iconst (pc := 43) hX dX6_zero_43 ?_
      refine g_put (pc := 44) hX (ci := 3) (fun _ h => List.mem_cons_of_mem _ (List.mem_append_left _ (List.mem_append_left _ (List.mem_append_left _ (List.mem_append_right _ h))))) rfl tyX3 tyX3_ok nmX3 8 (by omega) (up_eq _ _ _) 4 (by decide) (List.mem_of_getElem? (i := 5) rfl) rfl rfl (tyX3_ok 4 (by decide)) rfl (fit_int _) (Nat.le_of_ble_eq_true rfl) dX6_zero_44 ?_
      refine g_at rfl rfl rfl (S2 := (va_up (va_up S31 8 (.inr (3, [.ref (gw_ad w 9), vI (g 0), vI (g 1), vI (scRaw F g), vI (g 3), vI (g 4), vI (g 5), vI (g 6), vI (g 7), vI (g 8), vI (g 9)]))) 8 (.inr (3, [.ref (gw_ad w 9), vI (g 0), vI (g 1), vI (scRaw F g), vI (0), vI (g 4), vI (g 5), vI (g 6), vI (g 7), vI (g 8), vI (g 9)])))) rfl ?_
      refine g_iload_n (pc := 47) hX 0 rfl dX6_zero_47 ?_
      refine g_iret (pc := 48) hX hR dX6_zero_48 ?_
      try simp only [decide_eq_true_eq, decide_eq_false_iff_not] at c_12 c_19
      exact (if_pos (⟨c_12, c_19⟩)).mpr ⟨rfl, ⟨⟨⟨(up_ne (by decide) (up_ne (by decide) g31)), (up_ne (by decide) (up_ne (by decide) ((hf31 1 (by decide) (Or.inl (by decide))).trans d1))), (up_ne (by decide) (up_ne (by decide) ((hf31 2 (by decide) (Or.inl (by decide))).trans d2))), (up_ne (by decide) (up_ne (by decide) ((hf31 3 (by decide) (Or.inl (by decide))).trans d3))), (up_ne (by decide) (up_ne (by decide) ((hf31 4 (by decide) (Or.inl (by decide))).trans d4))), (up_ne (by decide) (up_ne (by decide) ((hf31 5 (by decide) (Or.inl (by decide))).trans d5))), (up_ne (by decide) (up_ne (by decide) ((hf31 6 (by decide) (Or.inl (by decide))).trans d6)))⟩, ⟨⟨⟨(up_ne (by decide) (up_ne (by decide) ((hf31 7 (by decide) (Or.inl (by decide))).trans e0))), (up_eq _ _ _), (up_ne (by decide) (up_ne (by decide) ((hf31 9 (by decide) (Or.inl (by decide))).trans e2)))⟩, ⟨(up_ne (by decide) (up_ne (by decide) ((hf31 10 (by decide) (Or.inl (by decide))).trans e3))), (up_ne (by decide) (up_ne (by decide) ((hf31 11 (by decide) (Or.inl (by decide))).trans e4))), (up_ne (by decide) (up_ne (by decide) ((hf31 12 (by decide) (Or.inl (by decide))).trans e5))), (up_ne (by decide) (up_ne (by decide) ((hf31 13 (by decide) (Or.inl (by decide))).trans e6))), (up_ne (by decide) (up_ne (by decide) ((hf31 14 (by decide) (Or.inl (by decide))).trans e7)))⟩, ⟨(up_ne (by decide) (up_ne (by decide) ((hf31 15 (by decide) (Or.inl (by decide))).trans e8))), (up_ne (by decide) (up_ne (by decide) ((hf31 16 (by decide) (Or.inl (by decide))).trans e9))), (up_ne (by decide) (up_ne (by decide) ((hf31 17 (by decide) (Or.inl (by decide))).trans e10)))⟩⟩, ⟨⟨(up_ne (by decide) (up_ne (by decide) ((hf31 18 (by decide) (Or.inl (by decide))).trans e11))), (up_ne (by decide) (up_ne (by decide) ((hf31 19 (by decide) (Or.inl (by decide))).trans e12)))⟩, ⟨(up_ne (by decide) (up_ne (by decide) ((hf31 20 (by decide) (Or.inl (by decide))).trans e13))), (up_ne (by decide) (up_ne (by decide) ((hf31 21 (by decide) (Or.inl (by decide))).trans e14)))⟩, ⟨(up_ne (by decide) (up_ne (by decide) ((hf31 22 (by decide) (Or.inl (by decide))).trans e15))), (up_ne (by decide) (up_ne (by decide) ((hf31 23 (by decide) (Or.inl (by decide))).trans e16)))⟩⟩⟩, pastAt_frame (fun q hq => (up_ne (by omega) (up_ne (by omega) rfl))) hp31⟩, fun q hq => (up_ne (by omega) (up_ne (by omega) ((hf31 q (by omega) (by omega)).trans rfl)))⟩⟩
    · skip
      refine g_ldc (pc := 22) hX (z := -1000002) (List.mem_of_getElem? (i := 3) rfl) (by decide +kernel) dX6_zero_22 ?_
      refine g_iret (pc := 24) hX hR dX6_zero_24 ?_
      try simp only [decide_eq_true_eq, decide_eq_false_iff_not] at c_12 c_19
      exact (if_neg (fun z => absurd (show scNear F g = true from z.2) (by rw [c_19]; decide))).mpr ⟨rfl, rfl⟩

set_option maxHeartbeats 4000000 in
set_option maxRecDepth 100000 in
theorem c_X6_tare {w : gW} {l : Launch} {S : Nat → va_E} {pc j : Nat} {ty : Int} {B ρ T : Int → Int} {Tr : Int → Int → Int} {D : SD} {Z : Nat → SD} (hN : gw_N w = 92) (hd : deskAt w pc j ty B ρ T Tr D Z S) (hO : deskOK ty B ρ Tr D) (hh : pc ≤ 4 ∧ j < 4 ∧ ∀ i : Nat, i < 4 → cOK (Z i)) :
    GM1 w l yX6_tare wsX6_tare { frames := 5, cells := 0, slots := 0, locals := 111 } [.ref (gw_ad w 0)] S
      (fun v S' => if scSteady (sF D) (sG D) = true ∧ scOver (sF D) (sG D) = false ∧ 0 ≤ scGross (sF D) (sG D) then v = vI (scGross (sF D) (sG D)) ∧ POST w S (pcN pc) (jN j) ty B ρ T Tr (wG D (updZ (sG D) 3 (scGross (sF D) (sG D)))) (pastN j Z D) S' else v = vI (-1000002) ∧ S' = S) := by
  refine GM.start (own := RX6) (n := "tare") (d := "()I") (by decide) rfl (Nat.le_of_ble_eq_true rfl) ?_
  intro X hX hR hXl
  subst hXl
  refine g_at rfl (lv2 := [(0, .ref (gw_ad w 0))]) rfl rfl rfl ?_
  obtain ⟨⟨d0, d1, d2, d3, d4, d5, d6⟩, ⟨hS0, hB0⟩, hpa⟩ := id hd
  obtain ⟨F, g, C, E, L, Q, nR, R, nP, P0, nN, N, nK, K⟩ := D
  obtain ⟨⟨e0, e1, e2⟩, ⟨e3, e4, e5, e6, e7⟩, ⟨e8, e9, e10⟩⟩ := (id hS0)
  obtain ⟨⟨e11, e12⟩, ⟨e13, e14⟩, ⟨e15, e16⟩⟩ := (id hB0)
  change S 7 = .inr (4, [.ref (gw_ad w 8), .ref (gw_ad w 10), .ref (gw_ad w 15), .ref (gw_ad w 18), .ref (gw_ad w 20), .ref (gw_ad w 22)]) at e0
  change S 8 = .inr (3, [.ref (gw_ad w 9), vI (g 0), vI (g 1), vI (g 2), vI (g 3), vI (g 4), vI (g 5), vI (g 6), vI (g 7), vI (g 8), vI (g 9)]) at e1
  change S 9 = AI w 8 (F) at e2
  change S 10 = .inr (0, [.ref (gw_ad w 11), .ref (gw_ad w 12), .ref (gw_ad w 13), .ref (gw_ad w 14)]) at e3
  change S 11 = AI w 4 (C) at e4
  change S 12 = AI w 24 ((fl 6 L)) at e5
  change S 13 = AI w 24 ((fl 6 Q)) at e6
  change S 14 = AI w 4 (E) at e7
  change S 15 = .inr (2, [.ref (gw_ad w 16)]) at e8
  change S 16 = .inr (5, [vI (8), vI (63), .ref (gw_ad w 17), vI (nR)]) at e9
  change S 17 = AI w 504 (fl 63 R) at e10
  change S 18 = .inr (5, [vI (30), vI (22), .ref (gw_ad w 19), vI (nP)]) at e11
  change S 19 = AI w 660 (fl 22 P0) at e12
  change S 20 = .inr (5, [vI (20), vI (6), .ref (gw_ad w 21), vI (nN)]) at e13
  change S 21 = AI w 120 (fl 6 N) at e14
  change S 22 = .inr (5, [vI (20), vI (22), .ref (gw_ad w 23), vI (nK)]) at e15
  change S 23 = AI w 440 (fl 22 K) at e16
  obtain ⟨hD, hty, hBr, hBi, hrd, hTi⟩ := id hO
  obtain ⟨⟨⟨hF, hg⟩, hB, hU, hRR⟩, ⟨hnP, hPi, hPr⟩, ⟨hnN, hNi, hNr⟩, ⟨hnK, hKi, hKr⟩, hg3⟩ := id hD
  change scF F at hF
  change scG g at hg
  change bdOK C E L Q at hB
  change ruOK nR R at hU
  change ∀ i j, inI (R i j) at hRR
  change 0 ≤ nP ∧ nP ≤ 30 at hnP
  change ∀ i j, inI (P0 i j) at hPi
  change ∀ p, 0 ≤ p → p < nP → rowOK P0 p at hPr
  change 0 ≤ nN ∧ nN ≤ 20 at hnN
  change ∀ i j, inI (N i j) at hNi
  change nK = nN at hnK
  change ∀ i j, inI (K i j) at hKi
  change ∀ n, 0 ≤ n → n < nN → rowOK K n at hKr
  have hnRb : 0 ≤ nR ∧ nR ≤ 8 := hU.1
  refine g_aload_n (pc := 0) hX 0 rfl dX6_tare_0 ?_
  refine g_get (pc := 1) hX (ci := 6) (fun _ h => List.mem_cons_of_mem _ (List.mem_append_left _ (List.mem_append_left _ (List.mem_append_left _ (List.mem_append_left _ (List.mem_append_left _ (List.mem_append_right _ h))))))) rfl 0 (by omega) d0 0 (by decide) (List.mem_of_getElem? (i := 1) rfl) rfl (v := .ref (gw_ad w 7)) rfl dX6_tare_1 ?_
  refine g_get (pc := 4) hX (ci := 4) (fun _ h => List.mem_cons_of_mem _ (List.mem_append_left _ (List.mem_append_left _ (List.mem_append_left _ (List.mem_append_left _ (List.mem_append_right _ h)))))) rfl 7 (by omega) e0 0 (by decide) (List.mem_of_getElem? (i := 2) rfl) rfl (v := .ref (gw_ad w 8)) rfl dX6_tare_4 ?_
  refine g_astore_n (pc := 7) hX (lv2 := [(1, .ref (gw_ad w 8)), (0, .ref (gw_ad w 0))]) rfl (by decide) rfl dX6_tare_7 ?_
  refine g_aload_n (pc := 8) hX 0 rfl dX6_tare_8 ?_
  refine g_callV1 (pc := 9) (ci := 3) (As := []) (st2 := []) hX 8 (by omega) e1 rfl (c_X3_isSteady (by omega) (by omega) e1 e2 hF hg) gX6_tare_X3_isSteady (n := 0) (hw := rfl) (hrc := rfl) (hrs := rfl) (hd := by decide +kernel) (hR := ⟨Nat.le_of_ble_eq_true rfl, Nat.le_of_ble_eq_true rfl⟩) (hn := rfl) (hst := rfl) (hsum := Nat.le_of_ble_eq_true rfl) (hdg := dX6_tare_9) ?_
  rintro _ S9 ⟨rfl, e9⟩
  rw [e9]
  clear e9 S9
  refine g_at (pc2 := 12) rfl rfl (st2 := [vI (bz (scSteady F g))]) rfl (S2 := S) rfl ?_
  refine g_bif_eq (pc := 12) (tgt := 29) hX dX6_tare_12 (by decide) (fun c_12 => ?_) (fun c_12 => ?_)
  · skip
    refine g_ldc (pc := 29) hX (z := -1000002) (List.mem_of_getElem? (i := 3) rfl) (by decide +kernel) dX6_tare_29 ?_
    refine g_iret (pc := 31) hX hR dX6_tare_31 ?_
    try simp only [decide_eq_true_eq, decide_eq_false_iff_not] at c_12
    exact (if_neg (fun z => absurd (show scSteady F g = true from z.1) (by rw [c_12]; decide))).mpr ⟨rfl, rfl⟩
  · skip
    refine g_aload_n (pc := 15) hX 0 rfl dX6_tare_15 ?_
    refine g_callV1 (pc := 16) (ci := 3) (As := []) (st2 := []) hX 8 (by omega) e1 rfl (c_X3_isOver (by omega) (by omega) e1 e2 hF hg) gX6_tare_X3_isOver (n := 0) (hw := rfl) (hrc := rfl) (hrs := rfl) (hd := by decide +kernel) (hR := ⟨Nat.le_of_ble_eq_true rfl, Nat.le_of_ble_eq_true rfl⟩) (hn := rfl) (hst := rfl) (hsum := Nat.le_of_ble_eq_true rfl) (hdg := dX6_tare_16) ?_
    rintro _ S9 ⟨rfl, e9⟩
    rw [e9]
    clear e9 S9
    refine g_at (pc2 := 19) rfl rfl (st2 := [vI (bz (scOver F g))]) rfl (S2 := S) rfl ?_
    refine g_bif_ne (pc := 19) (tgt := 29) hX dX6_tare_19 (by decide) (fun c_19 => ?_) (fun c_19 => ?_)
    · skip
      refine g_ldc (pc := 29) hX (z := -1000002) (List.mem_of_getElem? (i := 3) rfl) (by decide +kernel) dX6_tare_29 ?_
      refine g_iret (pc := 31) hX hR dX6_tare_31 ?_
      try simp only [decide_eq_true_eq, decide_eq_false_iff_not] at c_12 c_19
      exact (if_neg (fun z => absurd (show scOver F g = false from z.2.1) (by rw [c_19]; decide))).mpr ⟨rfl, rfl⟩
    · skip
      refine g_aload_n (pc := 22) hX 0 rfl dX6_tare_22 ?_
      refine g_callV1 (pc := 23) (ci := 3) (As := []) (st2 := []) hX 8 (by omega) e1 rfl (c_X3_grossWeight (by omega) (by omega) e1 e2 hF hg) gX6_tare_X3_grossWeight (n := 0) (hw := rfl) (hrc := rfl) (hrs := rfl) (hd := by decide +kernel) (hR := ⟨Nat.le_of_ble_eq_true rfl, Nat.le_of_ble_eq_true rfl⟩) (hn := rfl) (hst := rfl) (hsum := Nat.le_of_ble_eq_true rfl) (hdg := dX6_tare_23) ?_
      rintro _ S9 ⟨rfl, e9⟩
      rw [e9]
      clear e9 S9
      refine g_at (pc2 := 26) rfl rfl (st2 := [vI (scGross F g)]) rfl (S2 := S) rfl ?_
      refine g_if_ge (pc := 26) (tgt := 32) hX (by have h1 := scGross_b hF hg; have h2 := scRaw_b hF hg; obtain ⟨⟨-, ⟨-, u1⟩, ⟨u2, u3⟩, -⟩, -⟩ := hg; obtain ⟨⟨-, -, ⟨u4, u5⟩, -⟩, -⟩ := hF; exact inI_mk (by omega) (by omega)) dX6_tare_26 (by decide) (fun c_26 => ?_) (fun c_26 => ?_)
      · skip
        refine g_aload_n (pc := 32) hX 1 rfl dX6_tare_32 ?_
        refine g_callV0 (pc := 33) (ci := 6) (As := []) (st2 := []) hX 0 (by omega) d0 rfl (c_X6_remember hN hd hh hD.c) gX6_tare_X6_remember (n := 0) (hw := rfl) (hrc := rfl) (hrs := rfl) (hd := by decide +kernel) (hR := ⟨Nat.le_of_ble_eq_true rfl, Nat.le_of_ble_eq_true rfl⟩) (hn := rfl) (hst := rfl) (hsum := Nat.le_of_ble_eq_true rfl) (hdg := dX6_tare_33) ?_
        rintro S33 ⟨hf33, g33, hp33⟩
        refine g_at (pc2 := 36) rfl rfl (st2 := []) rfl (S2 := S33) rfl ?_
        refine g_aload_n (pc := 36) hX 0 rfl dX6_tare_36 ?_
        refine g_aload_n (pc := 37) hX 0 rfl dX6_tare_37 ?_
        refine g_callV1 (pc := 38) (ci := 3) (As := []) (st2 := [.ref (gw_ad w 8)]) hX 8 (by omega) ((hf33 8 (by decide) (Or.inl (by decide))).trans e1) rfl (c_X3_grossWeight (by omega) (by omega) ((hf33 8 (by decide) (Or.inl (by decide))).trans e1) ((hf33 9 (by decide) (Or.inl (by decide))).trans e2) hF hg) gX6_tare_X3_grossWeight (n := 0) (hw := rfl) (hrc := rfl) (hrs := rfl) (hd := by decide +kernel) (hR := ⟨Nat.le_of_ble_eq_true rfl, Nat.le_of_ble_eq_true rfl⟩) (hn := rfl) (hst := rfl) (hsum := Nat.le_of_ble_eq_true rfl) (hdg := dX6_tare_38) ?_
        rintro _ S9 ⟨rfl, e9⟩
        rw [e9]
        clear e9 S9
        refine g_at (pc2 := 41) rfl rfl (st2 := [vI (scGross F g), .ref (gw_ad w 8)]) rfl (S2 := S33) rfl ?_
        refine g_put (pc := 41) hX (ci := 3) (fun _ h => List.mem_cons_of_mem _ (List.mem_append_left _ (List.mem_append_left _ (List.mem_append_left _ (List.mem_append_right _ h))))) rfl tyX3 tyX3_ok nmX3 8 (by omega) ((hf33 8 (by decide) (Or.inl (by decide))).trans e1) 4 (by decide) (List.mem_of_getElem? (i := 4) rfl) rfl rfl (tyX3_ok 4 (by decide)) rfl (fit_int _) (Nat.le_of_ble_eq_true rfl) dX6_tare_41 ?_
        refine g_at rfl rfl rfl (S2 := (va_up S33 8 (.inr (3, [.ref (gw_ad w 9), vI (g 0), vI (g 1), vI (g 2), vI (scGross F g), vI (g 4), vI (g 5), vI (g 6), vI (g 7), vI (g 8), vI (g 9)])))) rfl ?_
        refine g_aload_n (pc := 44) hX 0 rfl dX6_tare_44 ?_
        refine g_get (pc := 45) hX (ci := 3) (fun _ h => List.mem_cons_of_mem _ (List.mem_append_left _ (List.mem_append_left _ (List.mem_append_left _ (List.mem_append_right _ h))))) rfl 8 (by omega) (up_eq _ _ _) 4 (by decide) (List.mem_of_getElem? (i := 4) rfl) rfl (v := vI (scGross F g)) rfl dX6_tare_45 ?_
        refine g_iret (pc := 48) hX hR dX6_tare_48 ?_
        try simp only [decide_eq_true_eq, decide_eq_false_iff_not] at c_12 c_19 c_26
        exact (if_pos (⟨c_12, c_19, c_26⟩)).mpr ⟨rfl, ⟨⟨⟨(up_ne (by decide) g33), (up_ne (by decide) ((hf33 1 (by decide) (Or.inl (by decide))).trans d1)), (up_ne (by decide) ((hf33 2 (by decide) (Or.inl (by decide))).trans d2)), (up_ne (by decide) ((hf33 3 (by decide) (Or.inl (by decide))).trans d3)), (up_ne (by decide) ((hf33 4 (by decide) (Or.inl (by decide))).trans d4)), (up_ne (by decide) ((hf33 5 (by decide) (Or.inl (by decide))).trans d5)), (up_ne (by decide) ((hf33 6 (by decide) (Or.inl (by decide))).trans d6))⟩, ⟨⟨⟨(up_ne (by decide) ((hf33 7 (by decide) (Or.inl (by decide))).trans e0)), (up_eq _ _ _), (up_ne (by decide) ((hf33 9 (by decide) (Or.inl (by decide))).trans e2))⟩, ⟨(up_ne (by decide) ((hf33 10 (by decide) (Or.inl (by decide))).trans e3)), (up_ne (by decide) ((hf33 11 (by decide) (Or.inl (by decide))).trans e4)), (up_ne (by decide) ((hf33 12 (by decide) (Or.inl (by decide))).trans e5)), (up_ne (by decide) ((hf33 13 (by decide) (Or.inl (by decide))).trans e6)), (up_ne (by decide) ((hf33 14 (by decide) (Or.inl (by decide))).trans e7))⟩, ⟨(up_ne (by decide) ((hf33 15 (by decide) (Or.inl (by decide))).trans e8)), (up_ne (by decide) ((hf33 16 (by decide) (Or.inl (by decide))).trans e9)), (up_ne (by decide) ((hf33 17 (by decide) (Or.inl (by decide))).trans e10))⟩⟩, ⟨⟨(up_ne (by decide) ((hf33 18 (by decide) (Or.inl (by decide))).trans e11)), (up_ne (by decide) ((hf33 19 (by decide) (Or.inl (by decide))).trans e12))⟩, ⟨(up_ne (by decide) ((hf33 20 (by decide) (Or.inl (by decide))).trans e13)), (up_ne (by decide) ((hf33 21 (by decide) (Or.inl (by decide))).trans e14))⟩, ⟨(up_ne (by decide) ((hf33 22 (by decide) (Or.inl (by decide))).trans e15)), (up_ne (by decide) ((hf33 23 (by decide) (Or.inl (by decide))).trans e16))⟩⟩⟩, pastAt_frame (fun q hq => (up_ne (by omega) rfl)) hp33⟩, fun q hq => (up_ne (by omega) ((hf33 q (by omega) (by omega)).trans rfl))⟩⟩
      · skip
        refine g_ldc (pc := 29) hX (z := -1000002) (List.mem_of_getElem? (i := 3) rfl) (by decide +kernel) dX6_tare_29 ?_
        refine g_iret (pc := 31) hX hR dX6_tare_31 ?_
        try simp only [decide_eq_true_eq, decide_eq_false_iff_not] at c_12 c_19 c_26
        exact (if_neg (fun z => absurd (show 0 ≤ scGross F g from z.2.2) (by omega))).mpr ⟨rfl, rfl⟩

set_option maxHeartbeats 4000000 in
set_option maxRecDepth 100000 in
theorem c_X6_setExtra {w : gW} {l : Launch} {S : Nat → va_E} {pc j : Nat} {ty : Int} {B ρ T : Int → Int} {Tr : Int → Int → Int} {D : SD} {Z : Nat → SD} (hN : gw_N w = 92) (hd : deskAt w pc j ty B ρ T Tr D Z S) (hO : deskOK ty B ρ Tr D) (hh : pc ≤ 4 ∧ j < 4 ∧ ∀ i : Nat, i < 4 → cOK (Z i)) {z x : Int} (hz : inI z) (hx : inI x) :
    GM1 w l yX6_setExtra wsX6_setExtra { frames := 5, cells := 0, slots := 0, locals := 111 } [.ref (gw_ad w 0), vI (z), vI (x)] S
      (fun v S' => if (0 ≤ z ∧ z ≤ 3) ∧ 0 ≤ x ∧ x ≤ 10000 then v = vI (sE D z) ∧ POST w S (pcN pc) (jN j) ty B ρ T Tr (wE D (updZ (sE D) z x)) (pastN j Z D) S' else v = vI (-1000001) ∧ S' = S) := by
  refine GM.start (own := RX6) (n := "setExtra") (d := "(II)I") (by decide) rfl (Nat.le_of_ble_eq_true rfl) ?_
  intro X hX hR hXl
  subst hXl
  refine g_at rfl (lv2 := [(0, .ref (gw_ad w 0)), (1, vI (z)), (2, vI (x))]) rfl rfl rfl ?_
  obtain ⟨⟨d0, d1, d2, d3, d4, d5, d6⟩, ⟨hS0, hB0⟩, hpa⟩ := id hd
  obtain ⟨F, g, C, E, L, Q, nR, R, nP, P0, nN, N, nK, K⟩ := D
  obtain ⟨⟨e0, e1, e2⟩, ⟨e3, e4, e5, e6, e7⟩, ⟨e8, e9, e10⟩⟩ := (id hS0)
  obtain ⟨⟨e11, e12⟩, ⟨e13, e14⟩, ⟨e15, e16⟩⟩ := (id hB0)
  change S 7 = .inr (4, [.ref (gw_ad w 8), .ref (gw_ad w 10), .ref (gw_ad w 15), .ref (gw_ad w 18), .ref (gw_ad w 20), .ref (gw_ad w 22)]) at e0
  change S 8 = .inr (3, [.ref (gw_ad w 9), vI (g 0), vI (g 1), vI (g 2), vI (g 3), vI (g 4), vI (g 5), vI (g 6), vI (g 7), vI (g 8), vI (g 9)]) at e1
  change S 9 = AI w 8 (F) at e2
  change S 10 = .inr (0, [.ref (gw_ad w 11), .ref (gw_ad w 12), .ref (gw_ad w 13), .ref (gw_ad w 14)]) at e3
  change S 11 = AI w 4 (C) at e4
  change S 12 = AI w 24 ((fl 6 L)) at e5
  change S 13 = AI w 24 ((fl 6 Q)) at e6
  change S 14 = AI w 4 (E) at e7
  change S 15 = .inr (2, [.ref (gw_ad w 16)]) at e8
  change S 16 = .inr (5, [vI (8), vI (63), .ref (gw_ad w 17), vI (nR)]) at e9
  change S 17 = AI w 504 (fl 63 R) at e10
  change S 18 = .inr (5, [vI (30), vI (22), .ref (gw_ad w 19), vI (nP)]) at e11
  change S 19 = AI w 660 (fl 22 P0) at e12
  change S 20 = .inr (5, [vI (20), vI (6), .ref (gw_ad w 21), vI (nN)]) at e13
  change S 21 = AI w 120 (fl 6 N) at e14
  change S 22 = .inr (5, [vI (20), vI (22), .ref (gw_ad w 23), vI (nK)]) at e15
  change S 23 = AI w 440 (fl 22 K) at e16
  obtain ⟨hD, hty, hBr, hBi, hrd, hTi⟩ := id hO
  obtain ⟨⟨⟨hF, hg⟩, hB, hU, hRR⟩, ⟨hnP, hPi, hPr⟩, ⟨hnN, hNi, hNr⟩, ⟨hnK, hKi, hKr⟩, hg3⟩ := id hD
  change scF F at hF
  change scG g at hg
  change bdOK C E L Q at hB
  change ruOK nR R at hU
  change ∀ i j, inI (R i j) at hRR
  change 0 ≤ nP ∧ nP ≤ 30 at hnP
  change ∀ i j, inI (P0 i j) at hPi
  change ∀ p, 0 ≤ p → p < nP → rowOK P0 p at hPr
  change 0 ≤ nN ∧ nN ≤ 20 at hnN
  change ∀ i j, inI (N i j) at hNi
  change nK = nN at hnK
  change ∀ i j, inI (K i j) at hKi
  change ∀ n, 0 ≤ n → n < nN → rowOK K n at hKr
  have hnRb : 0 ≤ nR ∧ nR ≤ 8 := hU.1
  refine g_iload_n (pc := 0) hX 1 rfl dX6_setExtra_0 ?_
  refine g_callT1 (pc := 1) (As := [vI (z)]) (st2 := []) hX (c_X6_isZone (z := z) (by first | assumption | exact inI_mk (by omega) (by omega))) gX6_setExtra_X6_isZone (n := 1) (hw := rfl) (hrc := rfl) (hrs := rfl) (hd := by decide +kernel) (hR := ⟨Nat.le_of_ble_eq_true rfl, Nat.le_of_ble_eq_true rfl⟩) (hn := rfl) (hst := rfl) (hsum := Nat.le_of_ble_eq_true rfl) (hdg := dX6_setExtra_1) ?_
  rintro _ S9 ⟨rfl, e9⟩
  rw [e9]
  clear e9 S9
  refine g_at (pc2 := 4) rfl rfl (st2 := [vI (bz (decide (0 ≤ z ∧ z ≤ 3)))]) rfl (S2 := S) rfl ?_
  refine g_bif_eq (pc := 4) (tgt := 18) hX dX6_setExtra_4 (by decide) (fun c_4 => ?_) (fun c_4 => ?_)
  · skip
    refine g_ldc (pc := 18) hX (z := -1000001) (List.mem_of_getElem? (i := 1) rfl) (by decide +kernel) dX6_setExtra_18 ?_
    refine g_iret (pc := 20) hX hR dX6_setExtra_20 ?_
    try simp only [decide_eq_true_eq, decide_eq_false_iff_not] at c_4
    exact (if_neg (by omega)).mpr ⟨rfl, rfl⟩
  · skip
    have hidx := of_decide_eq_true c_4
    refine g_iload_n (pc := 7) hX 2 rfl dX6_setExtra_7 ?_
    refine g_iconst (pc := 8) hX dX6_setExtra_8 ?_
    refine g_sipush (pc := 9) hX (by decide) dX6_setExtra_9 ?_
    refine g_callT1 (pc := 12) (As := [vI (x), vI (0), vI (10000)]) (st2 := []) hX (c_X6_isWithin (x := x) (lo := 0) (hi := 10000) (by first | assumption | exact inI_mk (by omega) (by omega)) (by first | assumption | exact inI_mk (by omega) (by omega)) (by first | assumption | exact inI_mk (by omega) (by omega))) gX6_setExtra_X6_isWithin (n := 3) (hw := rfl) (hrc := rfl) (hrs := rfl) (hd := by decide +kernel) (hR := ⟨Nat.le_of_ble_eq_true rfl, Nat.le_of_ble_eq_true rfl⟩) (hn := rfl) (hst := rfl) (hsum := Nat.le_of_ble_eq_true rfl) (hdg := dX6_setExtra_12) ?_
    rintro _ S9 ⟨rfl, e9⟩
    rw [e9]
    clear e9 S9
    refine g_at (pc2 := 15) rfl rfl (st2 := [vI (bz (decide (0 ≤ x ∧ x ≤ 10000)))]) rfl (S2 := S) rfl ?_
    refine g_bif_ne (pc := 15) (tgt := 21) hX dX6_setExtra_15 (by decide) (fun c_15 => ?_) (fun c_15 => ?_)
    · skip
      refine g_aload_n (pc := 21) hX 0 rfl dX6_setExtra_21 ?_
      refine g_get (pc := 22) hX (ci := 6) (fun _ h => List.mem_cons_of_mem _ (List.mem_append_left _ (List.mem_append_left _ (List.mem_append_left _ (List.mem_append_left _ (List.mem_append_left _ (List.mem_append_right _ h))))))) rfl 0 (by omega) d0 0 (by decide) (List.mem_of_getElem? (i := 2) rfl) rfl (v := .ref (gw_ad w 7)) rfl dX6_setExtra_22 ?_
      refine g_get (pc := 25) hX (ci := 4) (fun _ h => List.mem_cons_of_mem _ (List.mem_append_left _ (List.mem_append_left _ (List.mem_append_left _ (List.mem_append_left _ (List.mem_append_right _ h)))))) rfl 7 (by omega) e0 1 (by decide) (List.mem_of_getElem? (i := 3) rfl) rfl (v := .ref (gw_ad w 10)) rfl dX6_setExtra_25 ?_
      refine g_iload_n (pc := 28) hX 1 rfl dX6_setExtra_28 ?_
      refine g_callV1 (pc := 29) (ci := 0) (As := [vI (z)]) (st2 := []) hX 10 (by omega) e3 rfl (c_X0_extraOf (by omega) (by omega) (by omega) (by omega) (by omega) e3 e4 e5 e6 e7 (z := z) (by omega) (by omega)) gX6_setExtra_X0_extraOf (n := 1) (hw := rfl) (hrc := rfl) (hrs := rfl) (hd := by decide +kernel) (hR := ⟨Nat.le_of_ble_eq_true rfl, Nat.le_of_ble_eq_true rfl⟩) (hn := rfl) (hst := rfl) (hsum := Nat.le_of_ble_eq_true rfl) (hdg := dX6_setExtra_29) ?_
      rintro _ S9 ⟨rfl, e9⟩
      rw [e9]
      clear e9 S9
      refine g_at (pc2 := 32) rfl rfl (st2 := [vI (E z)]) rfl (S2 := S) rfl ?_
      refine g_istore_n (pc := 32) hX (lv2 := [(3, vI (E z)), (0, .ref (gw_ad w 0)), (1, vI (z)), (2, vI (x))]) rfl (by decide) rfl dX6_setExtra_32 ?_
      refine g_aload_n (pc := 33) hX 1 rfl dX6_setExtra_33 ?_
      refine g_callV0 (pc := 34) (ci := 6) (As := []) (st2 := []) hX 0 (by omega) d0 rfl (c_X6_remember hN hd hh hD.c) gX6_setExtra_X6_remember (n := 0) (hw := rfl) (hrc := rfl) (hrs := rfl) (hd := by decide +kernel) (hR := ⟨Nat.le_of_ble_eq_true rfl, Nat.le_of_ble_eq_true rfl⟩) (hn := rfl) (hst := rfl) (hsum := Nat.le_of_ble_eq_true rfl) (hdg := dX6_setExtra_34) ?_
      rintro S34 ⟨hf34, g34, hp34⟩
      refine g_at (pc2 := 37) rfl rfl (st2 := []) rfl (S2 := S34) rfl ?_
      refine g_aload_n (pc := 37) hX 1 rfl dX6_setExtra_37 ?_
      refine g_get (pc := 38) hX (ci := 6) (fun _ h => List.mem_cons_of_mem _ (List.mem_append_left _ (List.mem_append_left _ (List.mem_append_left _ (List.mem_append_left _ (List.mem_append_left _ (List.mem_append_right _ h))))))) rfl 0 (by omega) g34 0 (by decide) (List.mem_of_getElem? (i := 2) rfl) rfl (v := .ref (gw_ad w 7)) rfl dX6_setExtra_38 ?_
      refine g_get (pc := 41) hX (ci := 4) (fun _ h => List.mem_cons_of_mem _ (List.mem_append_left _ (List.mem_append_left _ (List.mem_append_left _ (List.mem_append_left _ (List.mem_append_right _ h)))))) rfl 7 (by omega) ((hf34 7 (by decide) (Or.inl (by decide))).trans e0) 1 (by decide) (List.mem_of_getElem? (i := 3) rfl) rfl (v := .ref (gw_ad w 10)) rfl dX6_setExtra_41 ?_
      refine g_iload_n (pc := 44) hX 2 rfl dX6_setExtra_44 ?_
      refine g_iload_n (pc := 45) hX 3 rfl dX6_setExtra_45 ?_
      refine g_callV0 (pc := 46) (ci := 0) (As := [vI (z), vI (x)]) (st2 := []) hX 10 (by omega) ((hf34 10 (by decide) (Or.inl (by decide))).trans e3) rfl (c_X0_putExtra (z := z) (x := x) (by omega) (by omega) (by omega) (by omega) (by omega) ((hf34 10 (by decide) (Or.inl (by decide))).trans e3) ((hf34 11 (by decide) (Or.inl (by decide))).trans e4) ((hf34 12 (by decide) (Or.inl (by decide))).trans e5) ((hf34 13 (by decide) (Or.inl (by decide))).trans e6) ((hf34 14 (by decide) (Or.inl (by decide))).trans e7) (by omega) (by omega)) gX6_setExtra_X0_putExtra (n := 2) (hw := rfl) (hrc := rfl) (hrs := rfl) (hd := by decide +kernel) (hR := ⟨Nat.le_of_ble_eq_true rfl, Nat.le_of_ble_eq_true rfl⟩) (hn := rfl) (hst := rfl) (hsum := Nat.le_of_ble_eq_true rfl) (hdg := dX6_setExtra_46) ?_
      rintro _ rfl
      refine g_at (pc2 := 49) rfl rfl (st2 := []) rfl (S2 := (va_up S34 14 (AI w 4 (updZ (E) z x)))) rfl ?_
      refine g_iload_n (pc := 49) hX 0 rfl dX6_setExtra_49 ?_
      refine g_iret (pc := 50) hX hR dX6_setExtra_50 ?_
      try simp only [decide_eq_true_eq, decide_eq_false_iff_not] at c_4 c_15
      exact (if_pos (by omega)).mpr ⟨rfl, ⟨⟨⟨(up_ne (by decide) g34), (up_ne (by decide) ((hf34 1 (by decide) (Or.inl (by decide))).trans d1)), (up_ne (by decide) ((hf34 2 (by decide) (Or.inl (by decide))).trans d2)), (up_ne (by decide) ((hf34 3 (by decide) (Or.inl (by decide))).trans d3)), (up_ne (by decide) ((hf34 4 (by decide) (Or.inl (by decide))).trans d4)), (up_ne (by decide) ((hf34 5 (by decide) (Or.inl (by decide))).trans d5)), (up_ne (by decide) ((hf34 6 (by decide) (Or.inl (by decide))).trans d6))⟩, ⟨⟨⟨(up_ne (by decide) ((hf34 7 (by decide) (Or.inl (by decide))).trans e0)), (up_ne (by decide) ((hf34 8 (by decide) (Or.inl (by decide))).trans e1)), (up_ne (by decide) ((hf34 9 (by decide) (Or.inl (by decide))).trans e2))⟩, ⟨(up_ne (by decide) ((hf34 10 (by decide) (Or.inl (by decide))).trans e3)), (up_ne (by decide) ((hf34 11 (by decide) (Or.inl (by decide))).trans e4)), (up_ne (by decide) ((hf34 12 (by decide) (Or.inl (by decide))).trans e5)), (up_ne (by decide) ((hf34 13 (by decide) (Or.inl (by decide))).trans e6)), (up_eq _ _ _)⟩, ⟨(up_ne (by decide) ((hf34 15 (by decide) (Or.inl (by decide))).trans e8)), (up_ne (by decide) ((hf34 16 (by decide) (Or.inl (by decide))).trans e9)), (up_ne (by decide) ((hf34 17 (by decide) (Or.inl (by decide))).trans e10))⟩⟩, ⟨⟨(up_ne (by decide) ((hf34 18 (by decide) (Or.inl (by decide))).trans e11)), (up_ne (by decide) ((hf34 19 (by decide) (Or.inl (by decide))).trans e12))⟩, ⟨(up_ne (by decide) ((hf34 20 (by decide) (Or.inl (by decide))).trans e13)), (up_ne (by decide) ((hf34 21 (by decide) (Or.inl (by decide))).trans e14))⟩, ⟨(up_ne (by decide) ((hf34 22 (by decide) (Or.inl (by decide))).trans e15)), (up_ne (by decide) ((hf34 23 (by decide) (Or.inl (by decide))).trans e16))⟩⟩⟩, pastAt_frame (fun q hq => (up_ne (by omega) rfl)) hp34⟩, fun q hq => (up_ne (by omega) ((hf34 q (by omega) (by omega)).trans rfl))⟩⟩
    · skip
      refine g_ldc (pc := 18) hX (z := -1000001) (List.mem_of_getElem? (i := 1) rfl) (by decide +kernel) dX6_setExtra_18 ?_
      refine g_iret (pc := 20) hX hR dX6_setExtra_20 ?_
      try simp only [decide_eq_true_eq, decide_eq_false_iff_not] at c_4 c_15
      exact (if_neg (by omega)).mpr ⟨rfl, rfl⟩

set_option maxHeartbeats 4000000 in
set_option maxRecDepth 100000 in
theorem c_X6_unrule {w : gW} {l : Launch} {S : Nat → va_E} {pc j : Nat} {ty : Int} {B ρ T : Int → Int} {Tr : Int → Int → Int} {D : SD} {Z : Nat → SD} (hN : gw_N w = 92) (hd : deskAt w pc j ty B ρ T Tr D Z S) (hO : deskOK ty B ρ Tr D) (hh : pc ≤ 4 ∧ j < 4 ∧ ∀ i : Nat, i < 4 → cOK (Z i)) :
    GM1 w l yX6_unrule wsX6_unrule { frames := 5, cells := 0, slots := 0, locals := 111 } [.ref (gw_ad w 0)] S
      (fun v S' => if 1 ≤ snR D then v = vI (snR D - 1) ∧ POST w S (pcN pc) (jN j) ty B ρ T Tr (wR D (snR D - 1) (sR D)) (pastN j Z D) S' else v = vI (-1000002) ∧ S' = S) := by
  refine GM.start (own := RX6) (n := "unrule") (d := "()I") (by decide) rfl (Nat.le_of_ble_eq_true rfl) ?_
  intro X hX hR hXl
  subst hXl
  refine g_at rfl (lv2 := [(0, .ref (gw_ad w 0))]) rfl rfl rfl ?_
  obtain ⟨⟨d0, d1, d2, d3, d4, d5, d6⟩, ⟨hS0, hB0⟩, hpa⟩ := id hd
  obtain ⟨F, g, C, E, L, Q, nR, R, nP, P0, nN, N, nK, K⟩ := D
  obtain ⟨⟨e0, e1, e2⟩, ⟨e3, e4, e5, e6, e7⟩, ⟨e8, e9, e10⟩⟩ := (id hS0)
  obtain ⟨⟨e11, e12⟩, ⟨e13, e14⟩, ⟨e15, e16⟩⟩ := (id hB0)
  change S 7 = .inr (4, [.ref (gw_ad w 8), .ref (gw_ad w 10), .ref (gw_ad w 15), .ref (gw_ad w 18), .ref (gw_ad w 20), .ref (gw_ad w 22)]) at e0
  change S 8 = .inr (3, [.ref (gw_ad w 9), vI (g 0), vI (g 1), vI (g 2), vI (g 3), vI (g 4), vI (g 5), vI (g 6), vI (g 7), vI (g 8), vI (g 9)]) at e1
  change S 9 = AI w 8 (F) at e2
  change S 10 = .inr (0, [.ref (gw_ad w 11), .ref (gw_ad w 12), .ref (gw_ad w 13), .ref (gw_ad w 14)]) at e3
  change S 11 = AI w 4 (C) at e4
  change S 12 = AI w 24 ((fl 6 L)) at e5
  change S 13 = AI w 24 ((fl 6 Q)) at e6
  change S 14 = AI w 4 (E) at e7
  change S 15 = .inr (2, [.ref (gw_ad w 16)]) at e8
  change S 16 = .inr (5, [vI (8), vI (63), .ref (gw_ad w 17), vI (nR)]) at e9
  change S 17 = AI w 504 (fl 63 R) at e10
  change S 18 = .inr (5, [vI (30), vI (22), .ref (gw_ad w 19), vI (nP)]) at e11
  change S 19 = AI w 660 (fl 22 P0) at e12
  change S 20 = .inr (5, [vI (20), vI (6), .ref (gw_ad w 21), vI (nN)]) at e13
  change S 21 = AI w 120 (fl 6 N) at e14
  change S 22 = .inr (5, [vI (20), vI (22), .ref (gw_ad w 23), vI (nK)]) at e15
  change S 23 = AI w 440 (fl 22 K) at e16
  obtain ⟨hD, hty, hBr, hBi, hrd, hTi⟩ := id hO
  obtain ⟨⟨⟨hF, hg⟩, hB, hU, hRR⟩, ⟨hnP, hPi, hPr⟩, ⟨hnN, hNi, hNr⟩, ⟨hnK, hKi, hKr⟩, hg3⟩ := id hD
  change scF F at hF
  change scG g at hg
  change bdOK C E L Q at hB
  change ruOK nR R at hU
  change ∀ i j, inI (R i j) at hRR
  change 0 ≤ nP ∧ nP ≤ 30 at hnP
  change ∀ i j, inI (P0 i j) at hPi
  change ∀ p, 0 ≤ p → p < nP → rowOK P0 p at hPr
  change 0 ≤ nN ∧ nN ≤ 20 at hnN
  change ∀ i j, inI (N i j) at hNi
  change nK = nN at hnK
  change ∀ i j, inI (K i j) at hKi
  change ∀ n, 0 ≤ n → n < nN → rowOK K n at hKr
  have hnRb : 0 ≤ nR ∧ nR ≤ 8 := hU.1
  refine g_aload_n (pc := 0) hX 0 rfl dX6_unrule_0 ?_
  refine g_get (pc := 1) hX (ci := 6) (fun _ h => List.mem_cons_of_mem _ (List.mem_append_left _ (List.mem_append_left _ (List.mem_append_left _ (List.mem_append_left _ (List.mem_append_left _ (List.mem_append_right _ h))))))) rfl 0 (by omega) d0 0 (by decide) (List.mem_of_getElem? (i := 1) rfl) rfl (v := .ref (gw_ad w 7)) rfl dX6_unrule_1 ?_
  refine g_get (pc := 4) hX (ci := 4) (fun _ h => List.mem_cons_of_mem _ (List.mem_append_left _ (List.mem_append_left _ (List.mem_append_left _ (List.mem_append_left _ (List.mem_append_right _ h)))))) rfl 7 (by omega) e0 2 (by decide) (List.mem_of_getElem? (i := 2) rfl) rfl (v := .ref (gw_ad w 15)) rfl dX6_unrule_4 ?_
  refine g_callV1 (pc := 7) (ci := 2) (As := []) (st2 := []) hX 15 (by omega) e8 rfl (c_X2_count (by omega) (by omega) (by omega) e8 e9 e10) gX6_unrule_X2_count (n := 0) (hw := rfl) (hrc := rfl) (hrs := rfl) (hd := by decide +kernel) (hR := ⟨Nat.le_of_ble_eq_true rfl, Nat.le_of_ble_eq_true rfl⟩) (hn := rfl) (hst := rfl) (hsum := Nat.le_of_ble_eq_true rfl) (hdg := dX6_unrule_7) ?_
  rintro _ S9 ⟨rfl, e9⟩
  rw [e9]
  clear e9 S9
  refine g_at (pc2 := 10) rfl rfl (st2 := [vI (nR)]) rfl (S2 := S) rfl ?_
  refine g_if_gt (pc := 10) (tgt := 16) hX (by first | assumption | exact inI_mk (by omega) (by omega)) dX6_unrule_10 (by decide) (fun c_10 => ?_) (fun c_10 => ?_)
  · skip
    refine g_aload_n (pc := 16) hX 0 rfl dX6_unrule_16 ?_
    refine g_callV0 (pc := 17) (ci := 6) (As := []) (st2 := []) hX 0 (by omega) d0 rfl (c_X6_remember hN hd hh hD.c) gX6_unrule_X6_remember (n := 0) (hw := rfl) (hrc := rfl) (hrs := rfl) (hd := by decide +kernel) (hR := ⟨Nat.le_of_ble_eq_true rfl, Nat.le_of_ble_eq_true rfl⟩) (hn := rfl) (hst := rfl) (hsum := Nat.le_of_ble_eq_true rfl) (hdg := dX6_unrule_17) ?_
    rintro S17 ⟨hf17, g17, hp17⟩
    refine g_at (pc2 := 20) rfl rfl (st2 := []) rfl (S2 := S17) rfl ?_
    refine g_aload_n (pc := 20) hX 0 rfl dX6_unrule_20 ?_
    refine g_get (pc := 21) hX (ci := 6) (fun _ h => List.mem_cons_of_mem _ (List.mem_append_left _ (List.mem_append_left _ (List.mem_append_left _ (List.mem_append_left _ (List.mem_append_left _ (List.mem_append_right _ h))))))) rfl 0 (by omega) g17 0 (by decide) (List.mem_of_getElem? (i := 1) rfl) rfl (v := .ref (gw_ad w 7)) rfl dX6_unrule_21 ?_
    refine g_get (pc := 24) hX (ci := 4) (fun _ h => List.mem_cons_of_mem _ (List.mem_append_left _ (List.mem_append_left _ (List.mem_append_left _ (List.mem_append_left _ (List.mem_append_right _ h)))))) rfl 7 (by omega) ((hf17 7 (by decide) (Or.inl (by decide))).trans e0) 2 (by decide) (List.mem_of_getElem? (i := 2) rfl) rfl (v := .ref (gw_ad w 15)) rfl dX6_unrule_24 ?_
    refine g_callV0 (pc := 27) (ci := 2) (As := []) (st2 := []) hX 15 (by omega) ((hf17 15 (by decide) (Or.inl (by decide))).trans e8) rfl (c_X2_dropRule (by omega) (by omega) (by omega) ((hf17 15 (by decide) (Or.inl (by decide))).trans e8) ((hf17 16 (by decide) (Or.inl (by decide))).trans e9) ((hf17 17 (by decide) (Or.inl (by decide))).trans e10) (by omega) (by omega)) gX6_unrule_X2_dropRule (n := 0) (hw := rfl) (hrc := rfl) (hrs := rfl) (hd := by decide +kernel) (hR := ⟨Nat.le_of_ble_eq_true rfl, Nat.le_of_ble_eq_true rfl⟩) (hn := rfl) (hst := rfl) (hsum := Nat.le_of_ble_eq_true rfl) (hdg := dX6_unrule_27) ?_
    rintro _ rfl
    refine g_at (pc2 := 30) rfl rfl (st2 := []) rfl (S2 := (va_up S17 16 (.inr (5, [vI (8), vI (63), .ref (gw_ad w 17), vI (nR - 1)])))) rfl ?_
    refine g_aload_n (pc := 30) hX 0 rfl dX6_unrule_30 ?_
    refine g_get (pc := 31) hX (ci := 6) (fun _ h => List.mem_cons_of_mem _ (List.mem_append_left _ (List.mem_append_left _ (List.mem_append_left _ (List.mem_append_left _ (List.mem_append_left _ (List.mem_append_right _ h))))))) rfl 0 (by omega) (up_ne (by decide) g17) 0 (by decide) (List.mem_of_getElem? (i := 1) rfl) rfl (v := .ref (gw_ad w 7)) rfl dX6_unrule_31 ?_
    refine g_get (pc := 34) hX (ci := 4) (fun _ h => List.mem_cons_of_mem _ (List.mem_append_left _ (List.mem_append_left _ (List.mem_append_left _ (List.mem_append_left _ (List.mem_append_right _ h)))))) rfl 7 (by omega) (up_ne (by decide) ((hf17 7 (by decide) (Or.inl (by decide))).trans e0)) 2 (by decide) (List.mem_of_getElem? (i := 2) rfl) rfl (v := .ref (gw_ad w 15)) rfl dX6_unrule_34 ?_
    refine g_callV1 (pc := 37) (ci := 2) (As := []) (st2 := []) hX 15 (by omega) (up_ne (by decide) ((hf17 15 (by decide) (Or.inl (by decide))).trans e8)) rfl (c_X2_count (by omega) (by omega) (by omega) (up_ne (by decide) ((hf17 15 (by decide) (Or.inl (by decide))).trans e8)) (up_eq _ _ _) (up_ne (by decide) ((hf17 17 (by decide) (Or.inl (by decide))).trans e10))) gX6_unrule_X2_count (n := 0) (hw := rfl) (hrc := rfl) (hrs := rfl) (hd := by decide +kernel) (hR := ⟨Nat.le_of_ble_eq_true rfl, Nat.le_of_ble_eq_true rfl⟩) (hn := rfl) (hst := rfl) (hsum := Nat.le_of_ble_eq_true rfl) (hdg := dX6_unrule_37) ?_
    rintro _ S9 ⟨rfl, e9⟩
    rw [e9]
    clear e9 S9
    refine g_at (pc2 := 40) rfl rfl (st2 := [vI (nR - 1)]) rfl (S2 := (va_up S17 16 (.inr (5, [vI (8), vI (63), .ref (gw_ad w 17), vI (nR - 1)])))) rfl ?_
    refine g_iret (pc := 40) hX hR dX6_unrule_40 ?_
    try simp only [decide_eq_true_eq, decide_eq_false_iff_not] at c_10
    exact (if_pos (show 1 ≤ nR by omega)).mpr ⟨rfl, ⟨⟨⟨(up_ne (by decide) g17), (up_ne (by decide) ((hf17 1 (by decide) (Or.inl (by decide))).trans d1)), (up_ne (by decide) ((hf17 2 (by decide) (Or.inl (by decide))).trans d2)), (up_ne (by decide) ((hf17 3 (by decide) (Or.inl (by decide))).trans d3)), (up_ne (by decide) ((hf17 4 (by decide) (Or.inl (by decide))).trans d4)), (up_ne (by decide) ((hf17 5 (by decide) (Or.inl (by decide))).trans d5)), (up_ne (by decide) ((hf17 6 (by decide) (Or.inl (by decide))).trans d6))⟩, ⟨⟨⟨(up_ne (by decide) ((hf17 7 (by decide) (Or.inl (by decide))).trans e0)), (up_ne (by decide) ((hf17 8 (by decide) (Or.inl (by decide))).trans e1)), (up_ne (by decide) ((hf17 9 (by decide) (Or.inl (by decide))).trans e2))⟩, ⟨(up_ne (by decide) ((hf17 10 (by decide) (Or.inl (by decide))).trans e3)), (up_ne (by decide) ((hf17 11 (by decide) (Or.inl (by decide))).trans e4)), (up_ne (by decide) ((hf17 12 (by decide) (Or.inl (by decide))).trans e5)), (up_ne (by decide) ((hf17 13 (by decide) (Or.inl (by decide))).trans e6)), (up_ne (by decide) ((hf17 14 (by decide) (Or.inl (by decide))).trans e7))⟩, ⟨(up_ne (by decide) ((hf17 15 (by decide) (Or.inl (by decide))).trans e8)), (up_eq _ _ _), (up_ne (by decide) ((hf17 17 (by decide) (Or.inl (by decide))).trans e10))⟩⟩, ⟨⟨(up_ne (by decide) ((hf17 18 (by decide) (Or.inl (by decide))).trans e11)), (up_ne (by decide) ((hf17 19 (by decide) (Or.inl (by decide))).trans e12))⟩, ⟨(up_ne (by decide) ((hf17 20 (by decide) (Or.inl (by decide))).trans e13)), (up_ne (by decide) ((hf17 21 (by decide) (Or.inl (by decide))).trans e14))⟩, ⟨(up_ne (by decide) ((hf17 22 (by decide) (Or.inl (by decide))).trans e15)), (up_ne (by decide) ((hf17 23 (by decide) (Or.inl (by decide))).trans e16))⟩⟩⟩, pastAt_frame (fun q hq => (up_ne (by omega) rfl)) hp17⟩, fun q hq => (up_ne (by omega) ((hf17 q (by omega) (by omega)).trans rfl))⟩⟩
  · skip
    refine g_ldc (pc := 13) hX (z := -1000002) (List.mem_of_getElem? (i := 3) rfl) (by decide +kernel) dX6_unrule_13 ?_
    refine g_iret (pc := 15) hX hR dX6_unrule_15 ?_
    try simp only [decide_eq_true_eq, decide_eq_false_iff_not] at c_10
    exact (if_neg (show ¬ 1 ≤ nR by omega)).mpr ⟨rfl, rfl⟩

set_option maxHeartbeats 4000000 in
set_option maxRecDepth 100000 in
theorem c_X6_unband {w : gW} {l : Launch} {S : Nat → va_E} {pc j : Nat} {ty : Int} {B ρ T : Int → Int} {Tr : Int → Int → Int} {D : SD} {Z : Nat → SD} (hN : gw_N w = 92) (hd : deskAt w pc j ty B ρ T Tr D Z S) (hO : deskOK ty B ρ Tr D) (hh : pc ≤ 4 ∧ j < 4 ∧ ∀ i : Nat, i < 4 → cOK (Z i)) {z i : Int} (hz : inI z) (hi : inI i) :
    GM1 w l yX6_unband wsX6_unband { frames := 5, cells := 0, slots := 0, locals := 111 } [.ref (gw_ad w 0), vI (z), vI (i)] S
      (fun v S' => if 0 ≤ z ∧ z < 4 ∧ 0 ≤ i ∧ i < sC D z then v = vI (sC D z - 1) ∧ POST w S (pcN pc) (jN j) ty B ρ T Tr (wC D (updZ (sC D) z (sC D z - 1)) (bclose (sL D) z i (sC D z - 1)) (bclose (sQ D) z i (sC D z - 1))) (pastN j Z D) S' else v = vI (-1000001) ∧ S' = S) := by
  refine GM.start (own := RX6) (n := "unband") (d := "(II)I") (by decide) rfl (Nat.le_of_ble_eq_true rfl) ?_
  intro X hX hR hXl
  subst hXl
  refine g_at rfl (lv2 := [(0, .ref (gw_ad w 0)), (1, vI (z)), (2, vI (i))]) rfl rfl rfl ?_
  obtain ⟨⟨d0, d1, d2, d3, d4, d5, d6⟩, ⟨hS0, hB0⟩, hpa⟩ := id hd
  obtain ⟨F, g, C, E, L, Q, nR, R, nP, P0, nN, N, nK, K⟩ := D
  obtain ⟨⟨e0, e1, e2⟩, ⟨e3, e4, e5, e6, e7⟩, ⟨e8, e9, e10⟩⟩ := (id hS0)
  obtain ⟨⟨e11, e12⟩, ⟨e13, e14⟩, ⟨e15, e16⟩⟩ := (id hB0)
  change S 7 = .inr (4, [.ref (gw_ad w 8), .ref (gw_ad w 10), .ref (gw_ad w 15), .ref (gw_ad w 18), .ref (gw_ad w 20), .ref (gw_ad w 22)]) at e0
  change S 8 = .inr (3, [.ref (gw_ad w 9), vI (g 0), vI (g 1), vI (g 2), vI (g 3), vI (g 4), vI (g 5), vI (g 6), vI (g 7), vI (g 8), vI (g 9)]) at e1
  change S 9 = AI w 8 (F) at e2
  change S 10 = .inr (0, [.ref (gw_ad w 11), .ref (gw_ad w 12), .ref (gw_ad w 13), .ref (gw_ad w 14)]) at e3
  change S 11 = AI w 4 (C) at e4
  change S 12 = AI w 24 ((fl 6 L)) at e5
  change S 13 = AI w 24 ((fl 6 Q)) at e6
  change S 14 = AI w 4 (E) at e7
  change S 15 = .inr (2, [.ref (gw_ad w 16)]) at e8
  change S 16 = .inr (5, [vI (8), vI (63), .ref (gw_ad w 17), vI (nR)]) at e9
  change S 17 = AI w 504 (fl 63 R) at e10
  change S 18 = .inr (5, [vI (30), vI (22), .ref (gw_ad w 19), vI (nP)]) at e11
  change S 19 = AI w 660 (fl 22 P0) at e12
  change S 20 = .inr (5, [vI (20), vI (6), .ref (gw_ad w 21), vI (nN)]) at e13
  change S 21 = AI w 120 (fl 6 N) at e14
  change S 22 = .inr (5, [vI (20), vI (22), .ref (gw_ad w 23), vI (nK)]) at e15
  change S 23 = AI w 440 (fl 22 K) at e16
  obtain ⟨hD, hty, hBr, hBi, hrd, hTi⟩ := id hO
  obtain ⟨⟨⟨hF, hg⟩, hB, hU, hRR⟩, ⟨hnP, hPi, hPr⟩, ⟨hnN, hNi, hNr⟩, ⟨hnK, hKi, hKr⟩, hg3⟩ := id hD
  change scF F at hF
  change scG g at hg
  change bdOK C E L Q at hB
  change ruOK nR R at hU
  change ∀ i j, inI (R i j) at hRR
  change 0 ≤ nP ∧ nP ≤ 30 at hnP
  change ∀ i j, inI (P0 i j) at hPi
  change ∀ p, 0 ≤ p → p < nP → rowOK P0 p at hPr
  change 0 ≤ nN ∧ nN ≤ 20 at hnN
  change ∀ i j, inI (N i j) at hNi
  change nK = nN at hnK
  change ∀ i j, inI (K i j) at hKi
  change ∀ n, 0 ≤ n → n < nN → rowOK K n at hKr
  have hnRb : 0 ≤ nR ∧ nR ≤ 8 := hU.1
  refine g_aload_n (pc := 0) hX 0 rfl dX6_unband_0 ?_
  refine g_get (pc := 1) hX (ci := 6) (fun _ h => List.mem_cons_of_mem _ (List.mem_append_left _ (List.mem_append_left _ (List.mem_append_left _ (List.mem_append_left _ (List.mem_append_left _ (List.mem_append_right _ h))))))) rfl 0 (by omega) d0 0 (by decide) (List.mem_of_getElem? (i := 1) rfl) rfl (v := .ref (gw_ad w 7)) rfl dX6_unband_1 ?_
  refine g_get (pc := 4) hX (ci := 4) (fun _ h => List.mem_cons_of_mem _ (List.mem_append_left _ (List.mem_append_left _ (List.mem_append_left _ (List.mem_append_left _ (List.mem_append_right _ h)))))) rfl 7 (by omega) e0 1 (by decide) (List.mem_of_getElem? (i := 2) rfl) rfl (v := .ref (gw_ad w 10)) rfl dX6_unband_4 ?_
  refine g_iload_n (pc := 7) hX 1 rfl dX6_unband_7 ?_
  refine g_iload_n (pc := 8) hX 2 rfl dX6_unband_8 ?_
  refine g_callV1 (pc := 9) (ci := 0) (As := [vI (z), vI (i)]) (st2 := []) hX 10 (by omega) e3 rfl (c_X0_hasBand (by omega) (by omega) (by omega) (by omega) (by omega) e3 e4 e5 e6 e7 (z := z) (i := i) hB.1 (by first | assumption | exact inI_mk (by omega) (by omega)) (by first | assumption | exact inI_mk (by omega) (by omega))) gX6_unband_X0_hasBand (n := 2) (hw := rfl) (hrc := rfl) (hrs := rfl) (hd := by decide +kernel) (hR := ⟨Nat.le_of_ble_eq_true rfl, Nat.le_of_ble_eq_true rfl⟩) (hn := rfl) (hst := rfl) (hsum := Nat.le_of_ble_eq_true rfl) (hdg := dX6_unband_9) ?_
  rintro _ S9 ⟨rfl, e9⟩
  rw [e9]
  clear e9 S9
  refine g_at (pc2 := 12) rfl rfl (st2 := [vI (bz (decide (0 ≤ z ∧ z < 4 ∧ 0 ≤ i ∧ i < C z)))]) rfl (S2 := S) rfl ?_
  refine g_bif_ne (pc := 12) (tgt := 18) hX dX6_unband_12 (by decide) (fun c_12 => ?_) (fun c_12 => ?_)
  · skip
    have hidx := of_decide_eq_true c_12
    refine g_aload_n (pc := 18) hX 0 rfl dX6_unband_18 ?_
    refine g_callV0 (pc := 19) (ci := 6) (As := []) (st2 := []) hX 0 (by omega) d0 rfl (c_X6_remember hN hd hh hD.c) gX6_unband_X6_remember (n := 0) (hw := rfl) (hrc := rfl) (hrs := rfl) (hd := by decide +kernel) (hR := ⟨Nat.le_of_ble_eq_true rfl, Nat.le_of_ble_eq_true rfl⟩) (hn := rfl) (hst := rfl) (hsum := Nat.le_of_ble_eq_true rfl) (hdg := dX6_unband_19) ?_
    rintro S19 ⟨hf19, g19, hp19⟩
    refine g_at (pc2 := 22) rfl rfl (st2 := []) rfl (S2 := S19) rfl ?_
    refine g_aload_n (pc := 22) hX 0 rfl dX6_unband_22 ?_
    refine g_get (pc := 23) hX (ci := 6) (fun _ h => List.mem_cons_of_mem _ (List.mem_append_left _ (List.mem_append_left _ (List.mem_append_left _ (List.mem_append_left _ (List.mem_append_left _ (List.mem_append_right _ h))))))) rfl 0 (by omega) g19 0 (by decide) (List.mem_of_getElem? (i := 1) rfl) rfl (v := .ref (gw_ad w 7)) rfl dX6_unband_23 ?_
    refine g_get (pc := 26) hX (ci := 4) (fun _ h => List.mem_cons_of_mem _ (List.mem_append_left _ (List.mem_append_left _ (List.mem_append_left _ (List.mem_append_left _ (List.mem_append_right _ h)))))) rfl 7 (by omega) ((hf19 7 (by decide) (Or.inl (by decide))).trans e0) 1 (by decide) (List.mem_of_getElem? (i := 2) rfl) rfl (v := .ref (gw_ad w 10)) rfl dX6_unband_26 ?_
    refine g_iload_n (pc := 29) hX 1 rfl dX6_unband_29 ?_
    refine g_iload_n (pc := 30) hX 2 rfl dX6_unband_30 ?_
    refine g_callV0 (pc := 31) (ci := 0) (As := [vI (z), vI (i)]) (st2 := []) hX 10 (by omega) ((hf19 10 (by decide) (Or.inl (by decide))).trans e3) rfl (c_X0_closeBand (z := z) (i := i) (by omega) (by omega) (by omega) (by omega) (by omega) ((hf19 10 (by decide) (Or.inl (by decide))).trans e3) ((hf19 11 (by decide) (Or.inl (by decide))).trans e4) ((hf19 12 (by decide) (Or.inl (by decide))).trans e5) ((hf19 13 (by decide) (Or.inl (by decide))).trans e6) ((hf19 14 (by decide) (Or.inl (by decide))).trans e7) hB.1 (by omega) (by omega) (by omega) (by omega) (by decide) (by decide) (by decide) (by decide) (by decide) (by decide) (by decide) (by decide) (by decide) (by decide)) gX6_unband_X0_closeBand (n := 2) (hw := rfl) (hrc := rfl) (hrs := rfl) (hd := by decide +kernel) (hR := ⟨Nat.le_of_ble_eq_true rfl, Nat.le_of_ble_eq_true rfl⟩) (hn := rfl) (hst := rfl) (hsum := Nat.le_of_ble_eq_true rfl) (hdg := dX6_unband_31) ?_
    rintro _ rfl
    refine g_at (pc2 := 34) rfl rfl (st2 := []) rfl (S2 := (va_up (va_up (va_up S19 12 (AI w 24 ((fl 6 (bclose L z i (C z - 1)))))) 13 (AI w 24 ((fl 6 (bclose Q z i (C z - 1)))))) 11 (AI w 4 (updZ C z (C z - 1))))) rfl ?_
    refine g_aload_n (pc := 34) hX 0 rfl dX6_unband_34 ?_
    refine g_get (pc := 35) hX (ci := 6) (fun _ h => List.mem_cons_of_mem _ (List.mem_append_left _ (List.mem_append_left _ (List.mem_append_left _ (List.mem_append_left _ (List.mem_append_left _ (List.mem_append_right _ h))))))) rfl 0 (by omega) (up_ne (by decide) (up_ne (by decide) (up_ne (by decide) g19))) 0 (by decide) (List.mem_of_getElem? (i := 1) rfl) rfl (v := .ref (gw_ad w 7)) rfl dX6_unband_35 ?_
    refine g_get (pc := 38) hX (ci := 4) (fun _ h => List.mem_cons_of_mem _ (List.mem_append_left _ (List.mem_append_left _ (List.mem_append_left _ (List.mem_append_left _ (List.mem_append_right _ h)))))) rfl 7 (by omega) (up_ne (by decide) (up_ne (by decide) (up_ne (by decide) ((hf19 7 (by decide) (Or.inl (by decide))).trans e0)))) 1 (by decide) (List.mem_of_getElem? (i := 2) rfl) rfl (v := .ref (gw_ad w 10)) rfl dX6_unband_38 ?_
    refine g_iload_n (pc := 41) hX 1 rfl dX6_unband_41 ?_
    refine g_callV1 (pc := 42) (ci := 0) (As := [vI (z)]) (st2 := []) hX 10 (by omega) (up_ne (by decide) (up_ne (by decide) (up_ne (by decide) ((hf19 10 (by decide) (Or.inl (by decide))).trans e3)))) rfl (c_X0_bandsOf (by omega) (by omega) (by omega) (by omega) (by omega) (up_ne (by decide) (up_ne (by decide) (up_ne (by decide) ((hf19 10 (by decide) (Or.inl (by decide))).trans e3)))) (up_eq _ _ _) (up_ne (by decide) (up_ne (by decide) (up_eq _ _ _))) (up_ne (by decide) (up_eq _ _ _)) (up_ne (by decide) (up_ne (by decide) (up_ne (by decide) ((hf19 14 (by decide) (Or.inl (by decide))).trans e7)))) (z := z) (by omega) (by omega)) gX6_unband_X0_bandsOf (n := 1) (hw := rfl) (hrc := rfl) (hrs := rfl) (hd := by decide +kernel) (hR := ⟨Nat.le_of_ble_eq_true rfl, Nat.le_of_ble_eq_true rfl⟩) (hn := rfl) (hst := rfl) (hsum := Nat.le_of_ble_eq_true rfl) (hdg := dX6_unband_42) ?_
    rintro _ S9 ⟨rfl, e9⟩
    rw [e9]
    clear e9 S9
    refine g_at (pc2 := 45) rfl rfl (st2 := [vI ((updZ C z (C z - 1)) z)]) rfl (S2 := (va_up (va_up (va_up S19 12 (AI w 24 ((fl 6 (bclose L z i (C z - 1)))))) 13 (AI w 24 ((fl 6 (bclose Q z i (C z - 1)))))) 11 (AI w 4 (updZ C z (C z - 1))))) rfl ?_
    refine g_at rfl rfl (st2 := [vI (C z - 1)]) (by rw [show (updZ C z (C z - 1)) z = C z - 1 from updZ_eq _ _ _]) rfl ?_
    refine g_iret (pc := 45) hX hR dX6_unband_45 ?_
    try simp only [decide_eq_true_eq, decide_eq_false_iff_not] at c_12
    exact (if_pos (show 0 ≤ z ∧ z < 4 ∧ 0 ≤ i ∧ i < C z by omega)).mpr ⟨rfl, ⟨⟨⟨(up_ne (by decide) (up_ne (by decide) (up_ne (by decide) g19))), (up_ne (by decide) (up_ne (by decide) (up_ne (by decide) ((hf19 1 (by decide) (Or.inl (by decide))).trans d1)))), (up_ne (by decide) (up_ne (by decide) (up_ne (by decide) ((hf19 2 (by decide) (Or.inl (by decide))).trans d2)))), (up_ne (by decide) (up_ne (by decide) (up_ne (by decide) ((hf19 3 (by decide) (Or.inl (by decide))).trans d3)))), (up_ne (by decide) (up_ne (by decide) (up_ne (by decide) ((hf19 4 (by decide) (Or.inl (by decide))).trans d4)))), (up_ne (by decide) (up_ne (by decide) (up_ne (by decide) ((hf19 5 (by decide) (Or.inl (by decide))).trans d5)))), (up_ne (by decide) (up_ne (by decide) (up_ne (by decide) ((hf19 6 (by decide) (Or.inl (by decide))).trans d6))))⟩, ⟨⟨⟨(up_ne (by decide) (up_ne (by decide) (up_ne (by decide) ((hf19 7 (by decide) (Or.inl (by decide))).trans e0)))), (up_ne (by decide) (up_ne (by decide) (up_ne (by decide) ((hf19 8 (by decide) (Or.inl (by decide))).trans e1)))), (up_ne (by decide) (up_ne (by decide) (up_ne (by decide) ((hf19 9 (by decide) (Or.inl (by decide))).trans e2))))⟩, ⟨(up_ne (by decide) (up_ne (by decide) (up_ne (by decide) ((hf19 10 (by decide) (Or.inl (by decide))).trans e3)))), (up_eq _ _ _), (up_ne (by decide) (up_ne (by decide) (up_eq _ _ _))), (up_ne (by decide) (up_eq _ _ _)), (up_ne (by decide) (up_ne (by decide) (up_ne (by decide) ((hf19 14 (by decide) (Or.inl (by decide))).trans e7))))⟩, ⟨(up_ne (by decide) (up_ne (by decide) (up_ne (by decide) ((hf19 15 (by decide) (Or.inl (by decide))).trans e8)))), (up_ne (by decide) (up_ne (by decide) (up_ne (by decide) ((hf19 16 (by decide) (Or.inl (by decide))).trans e9)))), (up_ne (by decide) (up_ne (by decide) (up_ne (by decide) ((hf19 17 (by decide) (Or.inl (by decide))).trans e10))))⟩⟩, ⟨⟨(up_ne (by decide) (up_ne (by decide) (up_ne (by decide) ((hf19 18 (by decide) (Or.inl (by decide))).trans e11)))), (up_ne (by decide) (up_ne (by decide) (up_ne (by decide) ((hf19 19 (by decide) (Or.inl (by decide))).trans e12))))⟩, ⟨(up_ne (by decide) (up_ne (by decide) (up_ne (by decide) ((hf19 20 (by decide) (Or.inl (by decide))).trans e13)))), (up_ne (by decide) (up_ne (by decide) (up_ne (by decide) ((hf19 21 (by decide) (Or.inl (by decide))).trans e14))))⟩, ⟨(up_ne (by decide) (up_ne (by decide) (up_ne (by decide) ((hf19 22 (by decide) (Or.inl (by decide))).trans e15)))), (up_ne (by decide) (up_ne (by decide) (up_ne (by decide) ((hf19 23 (by decide) (Or.inl (by decide))).trans e16))))⟩⟩⟩, pastAt_frame (fun q hq => (up_ne (by omega) (up_ne (by omega) (up_ne (by omega) rfl)))) hp19⟩, fun q hq => (up_ne (by omega) (up_ne (by omega) (up_ne (by omega) ((hf19 q (by omega) (by omega)).trans rfl))))⟩⟩
  · skip
    refine g_ldc (pc := 15) hX (z := -1000001) (List.mem_of_getElem? (i := 3) rfl) (by decide +kernel) dX6_unband_15 ?_
    refine g_iret (pc := 17) hX hR dX6_unband_17 ?_
    try simp only [decide_eq_true_eq, decide_eq_false_iff_not] at c_12
    exact (if_neg (show ¬ (0 ≤ z ∧ z < 4 ∧ 0 ≤ i ∧ i < C z) by omega)).mpr ⟨rfl, rfl⟩

set_option maxHeartbeats 4000000 in
set_option maxRecDepth 100000 in
theorem c_X6_clear {w : gW} {l : Launch} {S : Nat → va_E} {pc j : Nat} {ty : Int} {B ρ T : Int → Int} {Tr : Int → Int → Int} {D : SD} {Z : Nat → SD} (hN : gw_N w = 92) (hd : deskAt w pc j ty B ρ T Tr D Z S) (hO : deskOK ty B ρ Tr D) (hh : pc ≤ 4 ∧ j < 4 ∧ ∀ i : Nat, i < 4 → cOK (Z i)) :
    GM1 w l yX6_clear wsX6_clear { frames := 0, cells := 0, slots := 0, locals := 0 } [.ref (gw_ad w 0)] S
      (fun v S' => v = vI ty ∧ POST w S pc j 0 B ρ T Tr D Z S') := by
  refine GM.start (own := RX6) (n := "clear") (d := "()I") (by decide) rfl (Nat.le_of_ble_eq_true rfl) ?_
  intro X hX hR hXl
  subst hXl
  refine g_at rfl (lv2 := [(0, .ref (gw_ad w 0))]) rfl rfl rfl ?_
  obtain ⟨⟨d0, d1, d2, d3, d4, d5, d6⟩, ⟨hS0, hB0⟩, hpa⟩ := id hd
  obtain ⟨F, g, C, E, L, Q, nR, R, nP, P0, nN, N, nK, K⟩ := D
  obtain ⟨⟨e0, e1, e2⟩, ⟨e3, e4, e5, e6, e7⟩, ⟨e8, e9, e10⟩⟩ := (id hS0)
  obtain ⟨⟨e11, e12⟩, ⟨e13, e14⟩, ⟨e15, e16⟩⟩ := (id hB0)
  change S 7 = .inr (4, [.ref (gw_ad w 8), .ref (gw_ad w 10), .ref (gw_ad w 15), .ref (gw_ad w 18), .ref (gw_ad w 20), .ref (gw_ad w 22)]) at e0
  change S 8 = .inr (3, [.ref (gw_ad w 9), vI (g 0), vI (g 1), vI (g 2), vI (g 3), vI (g 4), vI (g 5), vI (g 6), vI (g 7), vI (g 8), vI (g 9)]) at e1
  change S 9 = AI w 8 (F) at e2
  change S 10 = .inr (0, [.ref (gw_ad w 11), .ref (gw_ad w 12), .ref (gw_ad w 13), .ref (gw_ad w 14)]) at e3
  change S 11 = AI w 4 (C) at e4
  change S 12 = AI w 24 ((fl 6 L)) at e5
  change S 13 = AI w 24 ((fl 6 Q)) at e6
  change S 14 = AI w 4 (E) at e7
  change S 15 = .inr (2, [.ref (gw_ad w 16)]) at e8
  change S 16 = .inr (5, [vI (8), vI (63), .ref (gw_ad w 17), vI (nR)]) at e9
  change S 17 = AI w 504 (fl 63 R) at e10
  change S 18 = .inr (5, [vI (30), vI (22), .ref (gw_ad w 19), vI (nP)]) at e11
  change S 19 = AI w 660 (fl 22 P0) at e12
  change S 20 = .inr (5, [vI (20), vI (6), .ref (gw_ad w 21), vI (nN)]) at e13
  change S 21 = AI w 120 (fl 6 N) at e14
  change S 22 = .inr (5, [vI (20), vI (22), .ref (gw_ad w 23), vI (nK)]) at e15
  change S 23 = AI w 440 (fl 22 K) at e16
  obtain ⟨hD, hty, hBr, hBi, hrd, hTi⟩ := id hO
  obtain ⟨⟨⟨hF, hg⟩, hB, hU, hRR⟩, ⟨hnP, hPi, hPr⟩, ⟨hnN, hNi, hNr⟩, ⟨hnK, hKi, hKr⟩, hg3⟩ := id hD
  change scF F at hF
  change scG g at hg
  change bdOK C E L Q at hB
  change ruOK nR R at hU
  change ∀ i j, inI (R i j) at hRR
  change 0 ≤ nP ∧ nP ≤ 30 at hnP
  change ∀ i j, inI (P0 i j) at hPi
  change ∀ p, 0 ≤ p → p < nP → rowOK P0 p at hPr
  change 0 ≤ nN ∧ nN ≤ 20 at hnN
  change ∀ i j, inI (N i j) at hNi
  change nK = nN at hnK
  change ∀ i j, inI (K i j) at hKi
  change ∀ n, 0 ≤ n → n < nN → rowOK K n at hKr
  have hnRb : 0 ≤ nR ∧ nR ≤ 8 := hU.1
  refine g_aload_n (pc := 0) hX 0 rfl dX6_clear_0 ?_
  refine g_get (pc := 1) hX (ci := 6) (fun _ h => List.mem_cons_of_mem _ (List.mem_append_right _ h)) rfl 0 (by omega) d0 5 (by decide) (List.mem_of_getElem? (i := 1) rfl) rfl (v := vI (ty)) rfl dX6_clear_1 ?_
  refine g_istore_n (pc := 4) hX (lv2 := [(1, vI (ty)), (0, .ref (gw_ad w 0))]) rfl (by decide) rfl dX6_clear_4 ?_
  refine g_aload_n (pc := 5) hX 1 rfl dX6_clear_5 ?_
  refine g_iconst (pc := 6) hX dX6_clear_6 ?_
  refine g_put (pc := 7) hX (ci := 6) (fun _ h => List.mem_cons_of_mem _ (List.mem_append_right _ h)) rfl tyX6 tyX6_ok nmX6 0 (by omega) d0 5 (by decide) (List.mem_of_getElem? (i := 1) rfl) rfl rfl (tyX6_ok 5 (by decide)) rfl (fit_int _) (Nat.le_of_ble_eq_true rfl) dX6_clear_7 ?_
  refine g_at rfl rfl rfl (S2 := (va_up S 0 (.inr (6, [.ref (gw_ad w 7), .ref (gw_ad w 1), vI (((pc : Nat) : Int)), vI (((j : Nat) : Int)), .ref (gw_ad w 2), vI (0), .ref (gw_ad w 3), .ref (gw_ad w 5)])))) rfl ?_
  refine g_iload_n (pc := 10) hX 0 rfl dX6_clear_10 ?_
  refine g_iret (pc := 11) hX hR dX6_clear_11 ?_
  exact ⟨rfl, ⟨⟨⟨(up_eq _ _ _), (up_ne (by decide) d1), (up_ne (by decide) d2), (up_ne (by decide) d3), (up_ne (by decide) d4), (up_ne (by decide) d5), (up_ne (by decide) d6)⟩, ⟨⟨⟨(up_ne (by decide) e0), (up_ne (by decide) e1), (up_ne (by decide) e2)⟩, ⟨(up_ne (by decide) e3), (up_ne (by decide) e4), (up_ne (by decide) e5), (up_ne (by decide) e6), (up_ne (by decide) e7)⟩, ⟨(up_ne (by decide) e8), (up_ne (by decide) e9), (up_ne (by decide) e10)⟩⟩, ⟨⟨(up_ne (by decide) e11), (up_ne (by decide) e12)⟩, ⟨(up_ne (by decide) e13), (up_ne (by decide) e14)⟩, ⟨(up_ne (by decide) e15), (up_ne (by decide) e16)⟩⟩⟩, pastAt_frame (fun q hq => (up_ne (by omega) rfl)) hpa⟩, fun q hq => (up_ne (by omega) rfl)⟩⟩

set_option maxHeartbeats 4000000 in
set_option maxRecDepth 100000 in
theorem c_X6_type {w : gW} {l : Launch} {S : Nat → va_E} {pc j : Nat} {ty : Int} {B ρ T : Int → Int} {Tr : Int → Int → Int} {D : SD} {Z : Nat → SD} (hN : gw_N w = 92) (hd : deskAt w pc j ty B ρ T Tr D Z S) (hO : deskOK ty B ρ Tr D) (hh : pc ≤ 4 ∧ j < 4 ∧ ∀ i : Nat, i < 4 → cOK (Z i)) {c : Int} (hc : inI c) :
    GM1 w l yX6_type wsX6_type { frames := 1, cells := 0, slots := 0, locals := 22 } [.ref (gw_ad w 0), vI (c)] S
      (fun v S' => if 32 ≤ c ∧ c ≤ 126 then (if ty < 60 then v = vI (ty + 1) ∧ POST w S pc j (ty + 1) (updZ B ty c) ρ T Tr D Z S' else v = vI (-1000003) ∧ S' = S) else v = vI (-1000001) ∧ S' = S) := by
  refine GM.start (own := RX6) (n := "type") (d := "(I)I") (by decide) rfl (Nat.le_of_ble_eq_true rfl) ?_
  intro X hX hR hXl
  subst hXl
  refine g_at rfl (lv2 := [(0, .ref (gw_ad w 0)), (1, vI (c))]) rfl rfl rfl ?_
  obtain ⟨⟨d0, d1, d2, d3, d4, d5, d6⟩, ⟨hS0, hB0⟩, hpa⟩ := id hd
  obtain ⟨F, g, C, E, L, Q, nR, R, nP, P0, nN, N, nK, K⟩ := D
  obtain ⟨⟨e0, e1, e2⟩, ⟨e3, e4, e5, e6, e7⟩, ⟨e8, e9, e10⟩⟩ := (id hS0)
  obtain ⟨⟨e11, e12⟩, ⟨e13, e14⟩, ⟨e15, e16⟩⟩ := (id hB0)
  change S 7 = .inr (4, [.ref (gw_ad w 8), .ref (gw_ad w 10), .ref (gw_ad w 15), .ref (gw_ad w 18), .ref (gw_ad w 20), .ref (gw_ad w 22)]) at e0
  change S 8 = .inr (3, [.ref (gw_ad w 9), vI (g 0), vI (g 1), vI (g 2), vI (g 3), vI (g 4), vI (g 5), vI (g 6), vI (g 7), vI (g 8), vI (g 9)]) at e1
  change S 9 = AI w 8 (F) at e2
  change S 10 = .inr (0, [.ref (gw_ad w 11), .ref (gw_ad w 12), .ref (gw_ad w 13), .ref (gw_ad w 14)]) at e3
  change S 11 = AI w 4 (C) at e4
  change S 12 = AI w 24 ((fl 6 L)) at e5
  change S 13 = AI w 24 ((fl 6 Q)) at e6
  change S 14 = AI w 4 (E) at e7
  change S 15 = .inr (2, [.ref (gw_ad w 16)]) at e8
  change S 16 = .inr (5, [vI (8), vI (63), .ref (gw_ad w 17), vI (nR)]) at e9
  change S 17 = AI w 504 (fl 63 R) at e10
  change S 18 = .inr (5, [vI (30), vI (22), .ref (gw_ad w 19), vI (nP)]) at e11
  change S 19 = AI w 660 (fl 22 P0) at e12
  change S 20 = .inr (5, [vI (20), vI (6), .ref (gw_ad w 21), vI (nN)]) at e13
  change S 21 = AI w 120 (fl 6 N) at e14
  change S 22 = .inr (5, [vI (20), vI (22), .ref (gw_ad w 23), vI (nK)]) at e15
  change S 23 = AI w 440 (fl 22 K) at e16
  obtain ⟨hD, hty, hBr, hBi, hrd, hTi⟩ := id hO
  obtain ⟨⟨⟨hF, hg⟩, hB, hU, hRR⟩, ⟨hnP, hPi, hPr⟩, ⟨hnN, hNi, hNr⟩, ⟨hnK, hKi, hKr⟩, hg3⟩ := id hD
  change scF F at hF
  change scG g at hg
  change bdOK C E L Q at hB
  change ruOK nR R at hU
  change ∀ i j, inI (R i j) at hRR
  change 0 ≤ nP ∧ nP ≤ 30 at hnP
  change ∀ i j, inI (P0 i j) at hPi
  change ∀ p, 0 ≤ p → p < nP → rowOK P0 p at hPr
  change 0 ≤ nN ∧ nN ≤ 20 at hnN
  change ∀ i j, inI (N i j) at hNi
  change nK = nN at hnK
  change ∀ i j, inI (K i j) at hKi
  change ∀ n, 0 ≤ n → n < nN → rowOK K n at hKr
  have hnRb : 0 ≤ nR ∧ nR ≤ 8 := hU.1
  refine g_iload_n (pc := 0) hX 1 rfl dX6_type_0 ?_
  refine g_bipush (pc := 1) hX (by decide) dX6_type_1 ?_
  refine g_bipush (pc := 3) hX (by decide) dX6_type_3 ?_
  refine g_callT1 (pc := 5) (As := [vI (c), vI (32), vI (126)]) (st2 := []) hX (c_X6_isWithin (x := c) (lo := 32) (hi := 126) (by first | assumption | exact inI_mk (by omega) (by omega)) (by first | assumption | exact inI_mk (by omega) (by omega)) (by first | assumption | exact inI_mk (by omega) (by omega))) gX6_type_X6_isWithin (n := 3) (hw := rfl) (hrc := rfl) (hrs := rfl) (hd := by decide +kernel) (hR := ⟨Nat.le_of_ble_eq_true rfl, Nat.le_of_ble_eq_true rfl⟩) (hn := rfl) (hst := rfl) (hsum := Nat.le_of_ble_eq_true rfl) (hdg := dX6_type_5) ?_
  rintro _ S9 ⟨rfl, e9⟩
  rw [e9]
  clear e9 S9
  refine g_at (pc2 := 8) rfl rfl (st2 := [vI (bz (decide (32 ≤ c ∧ c ≤ 126)))]) rfl (S2 := S) rfl ?_
  refine g_bif_ne (pc := 8) (tgt := 14) hX dX6_type_8 (by decide) (fun c_8 => ?_) (fun c_8 => ?_)
  · skip
    refine g_aload_n (pc := 14) hX 0 rfl dX6_type_14 ?_
    refine g_get (pc := 15) hX (ci := 6) (fun _ h => List.mem_cons_of_mem _ (List.mem_append_right _ h)) rfl 0 (by omega) d0 5 (by decide) (List.mem_of_getElem? (i := 2) rfl) rfl (v := vI (ty)) rfl dX6_type_15 ?_
    refine g_if_lt (pc := 18) (tgt := 33) hX (by first | assumption | exact inI_mk (by omega) (by omega)) dX6_type_18 (by decide) (fun c_18 => ?_) (fun c_18 => ?_)
    · skip
      exact absurd c_18 (by omega)
    · skip
      refine g_aload_n (pc := 21) hX 0 rfl dX6_type_21 ?_
      refine g_get (pc := 22) hX (ci := 6) (fun _ h => List.mem_cons_of_mem _ (List.mem_append_right _ h)) rfl 0 (by omega) d0 5 (by decide) (List.mem_of_getElem? (i := 2) rfl) rfl (v := vI (ty)) rfl dX6_type_22 ?_
      refine g_aload_n (pc := 25) hX 0 rfl dX6_type_25 ?_
      refine g_get (pc := 26) hX (ci := 6) (fun _ h => List.mem_cons_of_mem _ (List.mem_append_right _ h)) rfl 0 (by omega) d0 4 (by decide) (List.mem_of_getElem? (i := 3) rfl) rfl (v := .ref (gw_ad w 2)) rfl dX6_type_26 ?_
      refine g_alenAI (pc := 29) hX 2 (by omega) d2 dX6_type_29 ?_
      refine g_icmp_lt (pc := 30) (tgt := 36) hX (by first | assumption | exact inI_mk (by omega) (by omega)) (by first | assumption | exact inI_mk (by omega) (by omega)) dX6_type_30 (by decide) (fun c_30 => ?_) (fun c_30 => ?_)
      · skip
        refine g_aload_n (pc := 36) hX 0 rfl dX6_type_36 ?_
        refine g_get (pc := 37) hX (ci := 6) (fun _ h => List.mem_cons_of_mem _ (List.mem_append_right _ h)) rfl 0 (by omega) d0 4 (by decide) (List.mem_of_getElem? (i := 3) rfl) rfl (v := .ref (gw_ad w 2)) rfl dX6_type_37 ?_
        refine g_aload_n (pc := 40) hX 0 rfl dX6_type_40 ?_
        refine g_get (pc := 41) hX (ci := 6) (fun _ h => List.mem_cons_of_mem _ (List.mem_append_right _ h)) rfl 0 (by omega) d0 5 (by decide) (List.mem_of_getElem? (i := 2) rfl) rfl (v := vI (ty)) rfl dX6_type_41 ?_
        refine g_iload_n (pc := 44) hX 1 rfl dX6_type_44 ?_
        refine g_iast (pc := 45) hX 2 (by omega) d2 (by omega) (by omega) (by decide) dX6_type_45 ?_
        refine g_at rfl rfl rfl (S2 := (va_up S 2 (AI w 60 (updZ (B) (ty) (c))))) rfl ?_
        refine g_aload_n (pc := 46) hX 0 rfl dX6_type_46 ?_
        refine g_dup (pc := 47) hX rfl dX6_type_47 ?_
        refine g_get (pc := 48) hX (ci := 6) (fun _ h => List.mem_cons_of_mem _ (List.mem_append_right _ h)) rfl 0 (by omega) (up_ne (by decide) d0) 5 (by decide) (List.mem_of_getElem? (i := 2) rfl) rfl (v := vI (ty)) rfl dX6_type_48 ?_
        refine g_iconst (pc := 51) hX dX6_type_51 ?_
        refine g_iadd (pc := 52) hX dX6_type_52 ?_
        refine g_put (pc := 53) hX (ci := 6) (fun _ h => List.mem_cons_of_mem _ (List.mem_append_right _ h)) rfl tyX6 tyX6_ok nmX6 0 (by omega) (up_ne (by decide) d0) 5 (by decide) (List.mem_of_getElem? (i := 2) rfl) rfl rfl (tyX6_ok 5 (by decide)) rfl (fit_int _) (Nat.le_of_ble_eq_true rfl) dX6_type_53 ?_
        refine g_at rfl rfl rfl (S2 := (va_up (va_up S 2 (AI w 60 (updZ (B) (ty) (c)))) 0 (.inr (6, [.ref (gw_ad w 7), .ref (gw_ad w 1), vI (((pc : Nat) : Int)), vI (((j : Nat) : Int)), .ref (gw_ad w 2), vI (ty + 1), .ref (gw_ad w 3), .ref (gw_ad w 5)])))) rfl ?_
        refine g_aload_n (pc := 56) hX 0 rfl dX6_type_56 ?_
        refine g_get (pc := 57) hX (ci := 6) (fun _ h => List.mem_cons_of_mem _ (List.mem_append_right _ h)) rfl 0 (by omega) (up_eq _ _ _) 5 (by decide) (List.mem_of_getElem? (i := 2) rfl) rfl (v := vI (ty + 1)) rfl dX6_type_57 ?_
        refine g_iret (pc := 60) hX hR dX6_type_60 ?_
        try simp only [decide_eq_true_eq, decide_eq_false_iff_not] at c_8 c_18 c_30
        exact (if_pos (by omega)).mpr ((if_pos (by omega)).mpr ⟨rfl, ⟨⟨⟨(up_eq _ _ _), (up_ne (by decide) (up_ne (by decide) d1)), (up_ne (by decide) (up_eq _ _ _)), (up_ne (by decide) (up_ne (by decide) d3)), (up_ne (by decide) (up_ne (by decide) d4)), (up_ne (by decide) (up_ne (by decide) d5)), (up_ne (by decide) (up_ne (by decide) d6))⟩, ⟨⟨⟨(up_ne (by decide) (up_ne (by decide) e0)), (up_ne (by decide) (up_ne (by decide) e1)), (up_ne (by decide) (up_ne (by decide) e2))⟩, ⟨(up_ne (by decide) (up_ne (by decide) e3)), (up_ne (by decide) (up_ne (by decide) e4)), (up_ne (by decide) (up_ne (by decide) e5)), (up_ne (by decide) (up_ne (by decide) e6)), (up_ne (by decide) (up_ne (by decide) e7))⟩, ⟨(up_ne (by decide) (up_ne (by decide) e8)), (up_ne (by decide) (up_ne (by decide) e9)), (up_ne (by decide) (up_ne (by decide) e10))⟩⟩, ⟨⟨(up_ne (by decide) (up_ne (by decide) e11)), (up_ne (by decide) (up_ne (by decide) e12))⟩, ⟨(up_ne (by decide) (up_ne (by decide) e13)), (up_ne (by decide) (up_ne (by decide) e14))⟩, ⟨(up_ne (by decide) (up_ne (by decide) e15)), (up_ne (by decide) (up_ne (by decide) e16))⟩⟩⟩, pastAt_frame (fun q hq => (up_ne (by omega) (up_ne (by omega) rfl))) hpa⟩, fun q hq => (up_ne (by omega) (up_ne (by omega) rfl))⟩⟩)
      · skip
        refine g_ldc (pc := 33) hX (z := -1000003) (List.mem_of_getElem? (i := 4) rfl) (by decide +kernel) dX6_type_33 ?_
        refine g_iret (pc := 35) hX hR dX6_type_35 ?_
        try simp only [decide_eq_true_eq, decide_eq_false_iff_not] at c_8 c_18 c_30
        exact (if_pos (by omega)).mpr ((if_neg (by omega)).mpr ⟨rfl, rfl⟩)
  · skip
    refine g_ldc (pc := 11) hX (z := -1000001) (List.mem_of_getElem? (i := 1) rfl) (by decide +kernel) dX6_type_11 ?_
    refine g_iret (pc := 13) hX hR dX6_type_13 ?_
    try simp only [decide_eq_true_eq, decide_eq_false_iff_not] at c_8
    exact (if_neg (by omega)).mpr ⟨rfl, rfl⟩
