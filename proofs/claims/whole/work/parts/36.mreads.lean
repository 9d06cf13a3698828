def vLim (V : Int → Int) : Prop := ∀ j, -1000000000000 ≤ V j ∧ V j ≤ 1000000000000
theorem vLim.L {V : Int → Int} (h : vLim V) (j : Int) : inL (V j) := ⟨by have := (h j).1; omega, by have := (h j).2; omega⟩
def vBnd (V : Int → Int) : Prop := ∀ z, 0 ≤ z → z < 4 → 0 ≤ V (24 + 14 * z) ∧ V (24 + 14 * z) ≤ 6
def mbx (V : Int → Int) (z l : Int) : Int := bfor (fun i => V (24 + 14 * z + 2 + 2 * i)) l (V (24 + 14 * z)).toNat 0
def mop (V : Int → Int) (z n c : Int) : Int → Int := fun j => if 24 + 14 * z + 2 + 2 * (n - c + 1) ≤ j ∧ j ≤ 24 + 14 * z + 2 + 2 * n + 1 then V (j - 2) else V j
def mcl (V : Int → Int) (z i c : Int) : Int → Int := fun j => if 24 + 14 * z + 2 + 2 * i ≤ j ∧ j < 24 + 14 * z + 2 + 2 * c then V (j + 2) else V j
theorem mop_0 (V : Int → Int) (z n : Int) : mop V z n 0 = V := by
  funext j
  exact if_neg (by omega)
theorem mop_s {V : Int → Int} {z n c : Int} (h : 0 ≤ c) : updZ (updZ (mop V z n c) (24 + 14 * z + 2 + 2 * (n - c)) (mop V z n c (24 + 14 * z + 2 + 2 * (n - c - 1)))) (24 + 14 * z + 2 + 2 * (n - c) + 1) (updZ (mop V z n c) (24 + 14 * z + 2 + 2 * (n - c)) (mop V z n c (24 + 14 * z + 2 + 2 * (n - c - 1))) (24 + 14 * z + 2 + 2 * (n - c - 1) + 1)) = mop V z n (c + 1) := by
  have e1 : mop V z n c (24 + 14 * z + 2 + 2 * (n - c - 1)) = V (24 + 14 * z + 2 + 2 * (n - c - 1)) := if_neg (by omega)
  have e2 : updZ (mop V z n c) (24 + 14 * z + 2 + 2 * (n - c)) (mop V z n c (24 + 14 * z + 2 + 2 * (n - c - 1))) (24 + 14 * z + 2 + 2 * (n - c - 1) + 1) = V (24 + 14 * z + 2 + 2 * (n - c - 1) + 1) := by
    rw [updZ_ne _ _ (by omega)]
    exact if_neg (by omega)
  rw [e2, e1]
  funext j
  unfold updZ
  by_cases h1 : j = 24 + 14 * z + 2 + 2 * (n - c) + 1
  · rw [if_pos h1]
    unfold mop
    rw [if_pos (by omega), h1]
    congr 1
    omega
  · rw [if_neg h1]
    by_cases h2 : j = 24 + 14 * z + 2 + 2 * (n - c)
    · rw [if_pos h2]
      unfold mop
      rw [if_pos (by omega), h2]
      congr 1
      omega
    · rw [if_neg h2]
      unfold mop
      by_cases h3 : 24 + 14 * z + 2 + 2 * (n - c + 1) ≤ j ∧ j ≤ 24 + 14 * z + 2 + 2 * n + 1
      · rw [if_pos h3, if_pos (by omega)]
      · rw [if_neg h3, if_neg (by omega)]
theorem mcl_0 (V : Int → Int) (z i : Int) : mcl V z i i = V := by
  funext j
  exact if_neg (by omega)
theorem mcl_s {V : Int → Int} {z i c : Int} (h : i ≤ c) : updZ (updZ (mcl V z i c) (24 + 14 * z + 2 + 2 * c) (mcl V z i c (24 + 14 * z + 2 + 2 * (c + 1)))) (24 + 14 * z + 2 + 2 * c + 1) (updZ (mcl V z i c) (24 + 14 * z + 2 + 2 * c) (mcl V z i c (24 + 14 * z + 2 + 2 * (c + 1))) (24 + 14 * z + 2 + 2 * (c + 1) + 1)) = mcl V z i (c + 1) := by
  have e1 : mcl V z i c (24 + 14 * z + 2 + 2 * (c + 1)) = V (24 + 14 * z + 2 + 2 * (c + 1)) := if_neg (by omega)
  have e2 : updZ (mcl V z i c) (24 + 14 * z + 2 + 2 * c) (mcl V z i c (24 + 14 * z + 2 + 2 * (c + 1))) (24 + 14 * z + 2 + 2 * (c + 1) + 1) = V (24 + 14 * z + 2 + 2 * (c + 1) + 1) := by
    rw [updZ_ne _ _ (by omega)]
    exact if_neg (by omega)
  rw [e2, e1]
  funext j
  unfold updZ
  by_cases h1 : j = 24 + 14 * z + 2 + 2 * c + 1
  · rw [if_pos h1]
    unfold mcl
    rw [if_pos (by omega), h1]
    congr 1
    omega
  · rw [if_neg h1]
    by_cases h2 : j = 24 + 14 * z + 2 + 2 * c
    · rw [if_pos h2]
      unfold mcl
      rw [if_pos (by omega), h2]
      congr 1
      omega
    · rw [if_neg h2]
      unfold mcl
      by_cases h3 : 24 + 14 * z + 2 + 2 * i ≤ j ∧ j < 24 + 14 * z + 2 + 2 * c
      · rw [if_pos h3, if_pos (by omega)]
      · rw [if_neg h3, if_neg (by omega)]
def mbNew (V : Int → Int) (z l p : Int) : Int → Int := updZ (updZ (updZ (mop V z (V (24 + 14 * z)) (V (24 + 14 * z) - mbx V z l)) (24 + 14 * z) (V (24 + 14 * z) + 1)) (24 + 14 * z + 2 + 2 * mbx V z l) l) (24 + 14 * z + 2 + 2 * mbx V z l + 1) p
def mbOld (V : Int → Int) (z l p : Int) : Int → Int := updZ (updZ V (24 + 14 * z + 2 + 2 * mbx V z l) l) (24 + 14 * z + 2 + 2 * mbx V z l + 1) p
def mopF (V : Int → Int) (p : Int) : Nat → Int
  | 0 => -1000009
  | n + 1 => if V (940 + 12 * n + 0) = p ∧ V (940 + 12 * n + 4) = 0 then n else mopF V p n
theorem mopF_s (V : Int → Int) (p : Int) {c : Int} (h : 0 ≤ c) : mopF V p (c + 1).toNat = if V (940 + 12 * c + 0) = p ∧ V (940 + 12 * c + 4) = 0 then c else mopF V p c.toNat := by
  rw [show (c + 1).toNat = c.toNat + 1 by omega]
  show (if V (940 + 12 * (c.toNat : Int) + 0) = p ∧ V (940 + 12 * (c.toNat : Int) + 4) = 0 then (c.toNat : Int) else mopF V p c.toNat) = _
  rw [show ((c.toNat : Nat) : Int) = c by omega]
def mopZ (V : Int → Int) (p : Int) : Int := mopF V p (V 20).toNat
theorem mopF_b (V : Int → Int) (p : Int) : ∀ n : Nat, mopF V p n = -1000009 ∨ (0 ≤ mopF V p n ∧ mopF V p n < n)
  | 0 => Or.inl rfl
  | n + 1 => by
    have h := mopF_b V p n
    show (if V (940 + 12 * n + 0) = p ∧ V (940 + 12 * n + 4) = 0 then (n : Int) else mopF V p n) = -1000009 ∨ (0 ≤ (if V (940 + 12 * n + 0) = p ∧ V (940 + 12 * n + 4) = 0 then (n : Int) else mopF V p n) ∧ (if V (940 + 12 * n + 0) = p ∧ V (940 + 12 * n + 4) = 0 then (n : Int) else mopF V p n) < ((n + 1 : Nat) : Int))
    split <;> omega

set_option maxHeartbeats 4000000 in
set_option maxRecDepth 100000 in
theorem c_X7_passes {w : gW} {l : Launch} {S : Nat → va_E} {pm tm xm at_ wm wh : Int} {ir : Bool} {V PV TY TX MK MM CH AM WT WK FL PI : Int → Int} (hN : gw_N w = 105) (hm : modelAt w pm tm xm at_ wm wh ir V PV TY TX MK MM CH AM WT WK FL PI S) (hv : mOK V) (hl : V 13 < 100000) :
    GM0 w l yX7_passes wsX7_passes { frames := 2, cells := 0, slots := 0, locals := 45 } [.ref (gw_ad w 92)] S
      (fun S' => S' = va_up S 93 (AJ w 1200 (pasV V))) := by
  refine GM.start (own := RX7) (n := "passes") (d := "()V") (by decide) rfl (Nat.le_of_ble_eq_true rfl) ?_
  intro X hX hR hXl
  subst hXl
  refine g_at rfl (lv2 := [(0, .ref (gw_ad w 92))]) rfl rfl rfl ?_
  obtain ⟨⟨m92, m93, m94⟩, ⟨m95, m96⟩, ⟨m97, m98, m99, m100, m101⟩, ⟨m102, m103, m104⟩⟩ := (id hm)
  have hr := hv.r
  have hrm := rawV_m hr
  have hrb := rawV_b hr
  obtain ⟨⟨⟨⟨f0a, f0b⟩, ⟨f1a, f1b⟩, ⟨f2a, f2b⟩, ⟨f3a, f3b⟩⟩, ⟨⟨f4a, f4b⟩, ⟨f5a, f5b⟩, ⟨f6a, f6b⟩, ⟨f7a, f7b⟩⟩⟩, ⟨⟨a8a, a8b⟩, ⟨a9a, a9b⟩, ⟨a10a, a10b⟩, ⟨a11a, a11b⟩, ⟨a12a, a12b⟩, ⟨a13a, a13b⟩⟩, ⟨⟨a14a, a14b⟩, ⟨a15a, a15b⟩, ⟨a16a, a16b⟩, ⟨a17a, a17b⟩⟩⟩ := id hv
  refine g_aload_n (pc := 0) hX 0 rfl dX7_passes_0 ?_
  refine g_get (pc := 1) hX (ci := 7) (fun _ h => List.mem_cons_of_mem _ (List.mem_append_right _ h)) rfl 92 (by omega) m92 0 (by decide) (List.mem_of_getElem? (i := 1) rfl) rfl (v := .ref (gw_ad w 93)) rfl dX7_passes_1 ?_
  refine g_bipush (pc := 4) hX (by decide) dX7_passes_4 ?_
  refine g_dup2 (pc := 6) hX rfl rfl dX7_passes_6 ?_
  refine g_lald (pc := 7) hX 93 (by omega) m93 (by omega) (by omega) (by decide) dX7_passes_7 ?_
  refine g_lconst (pc := 8) hX (z := 1) rfl dX7_passes_8 ?_
  refine g_ladd (pc := 9) hX dX7_passes_9 ?_
  refine g_last (pc := 10) hX 93 (by omega) m93 (by omega) (by omega) (by decide) dX7_passes_10 ?_
  refine g_at rfl rfl rfl (S2 := (va_up S 93 (AJ w 1200 (updZ (V) (13) ((V 13) + 1))))) rfl ?_
  refine g_aload_n (pc := 11) hX 0 rfl dX7_passes_11 ?_
  refine g_get (pc := 12) hX (ci := 7) (fun _ h => List.mem_cons_of_mem _ (List.mem_append_right _ h)) rfl 92 (by omega) (up_ne (by decide) m92) 0 (by decide) (List.mem_of_getElem? (i := 1) rfl) rfl (v := .ref (gw_ad w 93)) rfl dX7_passes_12 ?_
  refine g_bipush (pc := 15) hX (by decide) dX7_passes_15 ?_
  refine g_dup2 (pc := 17) hX rfl rfl dX7_passes_17 ?_
  refine g_lald (pc := 18) hX 93 (by omega) (up_eq _ _ _) (by omega) (by omega) (by decide) dX7_passes_18 ?_
  refine g_at rfl rfl (st2 := [vL (V 9), vI (9), .ref (gw_ad w 93)]) (by rfl) rfl ?_
  refine g_aload_n (pc := 19) hX 0 rfl dX7_passes_19 ?_
  refine g_get (pc := 20) hX (ci := 7) (fun _ h => List.mem_cons_of_mem _ (List.mem_append_right _ h)) rfl 92 (by omega) (up_ne (by decide) m92) 0 (by decide) (List.mem_of_getElem? (i := 1) rfl) rfl (v := .ref (gw_ad w 93)) rfl dX7_passes_20 ?_
  refine g_iconst (pc := 23) hX dX7_passes_23 ?_
  refine g_lald (pc := 24) hX 93 (by omega) (up_eq _ _ _) (by omega) (by omega) (by decide) dX7_passes_24 ?_
  refine g_at rfl rfl (st2 := [vL (V 0), vL (V 9), vI (9), .ref (gw_ad w 93)]) (by rfl) rfl ?_
  refine g_ladd (pc := 25) hX dX7_passes_25 ?_
  refine g_last (pc := 26) hX 93 (by omega) (up_eq _ _ _) (by omega) (by omega) (by decide) dX7_passes_26 ?_
  refine g_at rfl rfl rfl (S2 := (va_up (va_up S 93 (AJ w 1200 (updZ (V) (13) ((V 13) + 1)))) 93 (AJ w 1200 (updZ (updZ (V) (13) ((V 13) + 1)) (9) ((V 9) + (V 0)))))) rfl ?_
  obtain ⟨A1, eA1⟩ : ∃ f : Int → Int, f = updZ (updZ (V) (13) ((V 13) + 1)) (9) ((V 9) + (V 0)) := ⟨_, rfl⟩
  refine g_at rfl rfl rfl (S2 := (va_up (va_up S 93 (AJ w 1200 (updZ (V) (13) ((V 13) + 1)))) 93 (AJ w 1200 (A1)))) (by rw [eA1]) ?_
  have eA1b : A1 = pa1 V := eA1
  clear eA1
  have hr1 : rwOK A1 := by rw [eA1b]; exact pa1_r hv hl
  refine g_aload_n (pc := 27) hX 0 rfl dX7_passes_27 ?_
  refine g_get (pc := 28) hX (ci := 7) (fun _ h => List.mem_cons_of_mem _ (List.mem_append_right _ h)) rfl 92 (by omega) (up_ne (by decide) (up_ne (by decide) m92)) 0 (by decide) (List.mem_of_getElem? (i := 1) rfl) rfl (v := .ref (gw_ad w 93)) rfl dX7_passes_28 ?_
  refine g_bipush (pc := 31) hX (by decide) dX7_passes_31 ?_
  refine g_aload_n (pc := 33) hX 0 rfl dX7_passes_33 ?_
  refine g_get (pc := 34) hX (ci := 7) (fun _ h => List.mem_cons_of_mem _ (List.mem_append_right _ h)) rfl 92 (by omega) (up_ne (by decide) (up_ne (by decide) m92)) 0 (by decide) (List.mem_of_getElem? (i := 1) rfl) rfl (v := .ref (gw_ad w 93)) rfl dX7_passes_34 ?_
  refine g_bipush (pc := 37) hX (by decide) dX7_passes_37 ?_
  refine g_lald (pc := 39) hX 93 (by omega) (up_eq _ _ _) (by omega) (by omega) (by decide) dX7_passes_39 ?_
  refine g_at rfl rfl (st2 := [vL (V 17), vI (14), .ref (gw_ad w 93)]) (by rw [show A1 17 = V 17 from by rw [eA1b]; rfl]) rfl ?_
  refine g_ldc2 (pc := 40) hX (z := 3) (List.mem_of_getElem? (i := 2) rfl) (by decide +kernel) dX7_passes_40 ?_
  refine g_lrem (pc := 43) hX (by first | assumption | exact inI_L (by assumption) | exact inL_mk (by omega) (by omega)) (by first | assumption | exact inI_L (by assumption) | exact inL_mk (by omega) (by omega)) (by omega) dX7_passes_43 ?_
  refine g_at rfl rfl (st2 := [vL (V 17 % 3), vI (14), .ref (gw_ad w 93)]) (by rw [show (V 17).tmod (3) = V 17 % 3 from Int.tmod_eq_emod_of_nonneg (by omega)]) rfl ?_
  refine g_l2i (pc := 44) hX dX7_passes_44 ?_
  refine g_iadd (pc := 45) hX dX7_passes_45 ?_
  refine g_aload_n (pc := 46) hX 0 rfl dX7_passes_46 ?_
  refine g_callV1 (pc := 47) (ci := 7) (As := []) (st2 := [vI (14 + (V 17 % 3)), .ref (gw_ad w 93)]) hX 92 (by omega) (up_ne (by decide) (up_ne (by decide) m92)) rfl (c_X7_raw hN (show modelAt w pm tm xm at_ wm wh ir A1 PV TY TX MK MM CH AM WT WK FL PI (va_up (va_up S 93 (AJ w 1200 (updZ (V) (13) ((V 13) + 1)))) 93 (AJ w 1200 (A1))) from ⟨⟨(up_ne (by decide) (up_ne (by decide) m92)), (up_eq _ _ _), (up_ne (by decide) (up_ne (by decide) m94))⟩, ⟨(up_ne (by decide) (up_ne (by decide) m95)), (up_ne (by decide) (up_ne (by decide) m96))⟩, ⟨(up_ne (by decide) (up_ne (by decide) m97)), (up_ne (by decide) (up_ne (by decide) m98)), (up_ne (by decide) (up_ne (by decide) m99)), (up_ne (by decide) (up_ne (by decide) m100)), (up_ne (by decide) (up_ne (by decide) m101))⟩, ⟨(up_ne (by decide) (up_ne (by decide) m102)), (up_ne (by decide) (up_ne (by decide) m103)), (up_ne (by decide) (up_ne (by decide) m104))⟩⟩) hr1) gX7_passes_X7_raw (n := 0) (hw := rfl) (hrc := rfl) (hrs := rfl) (hd := by decide +kernel) (hR := ⟨Nat.le_of_ble_eq_true rfl, Nat.le_of_ble_eq_true rfl⟩) (hn := rfl) (hst := rfl) (hsum := Nat.le_of_ble_eq_true rfl) (hdg := dX7_passes_47) ?_
  rintro _ S9 ⟨rfl, e9⟩
  rw [e9]
  clear e9 S9
  refine g_at (pc2 := 50) rfl rfl (st2 := [vL (rawV A1), vI (14 + (V 17 % 3)), .ref (gw_ad w 93)]) rfl (S2 := (va_up (va_up S 93 (AJ w 1200 (updZ (V) (13) ((V 13) + 1)))) 93 (AJ w 1200 (A1)))) rfl ?_
  refine g_last (pc := 50) hX 93 (by omega) (up_eq _ _ _) (by omega) (by omega) (by decide) dX7_passes_50 ?_
  refine g_at rfl rfl rfl (S2 := (va_up (va_up (va_up S 93 (AJ w 1200 (updZ (V) (13) ((V 13) + 1)))) 93 (AJ w 1200 (A1))) 93 (AJ w 1200 (updZ (A1) (14 + (V 17 % 3)) (rawV A1))))) rfl ?_
  refine g_aload_n (pc := 51) hX 0 rfl dX7_passes_51 ?_
  refine g_get (pc := 52) hX (ci := 7) (fun _ h => List.mem_cons_of_mem _ (List.mem_append_right _ h)) rfl 92 (by omega) (up_ne (by decide) (up_ne (by decide) (up_ne (by decide) m92))) 0 (by decide) (List.mem_of_getElem? (i := 1) rfl) rfl (v := .ref (gw_ad w 93)) rfl dX7_passes_52 ?_
  refine g_bipush (pc := 55) hX (by decide) dX7_passes_55 ?_
  refine g_dup2 (pc := 57) hX rfl rfl dX7_passes_57 ?_
  refine g_lald (pc := 58) hX 93 (by omega) (up_eq _ _ _) (by omega) (by omega) (by decide) dX7_passes_58 ?_
  refine g_at rfl rfl (st2 := [vL (V 17), vI (17), .ref (gw_ad w 93)]) (by rw [show (updZ (A1) (14 + (V 17 % 3)) (rawV A1)) 17 = V 17 from by rw [eA1b, updZ_ne _ _ (by omega)]; rfl]) rfl ?_
  refine g_lconst (pc := 59) hX (z := 1) rfl dX7_passes_59 ?_
  refine g_ladd (pc := 60) hX dX7_passes_60 ?_
  refine g_last (pc := 61) hX 93 (by omega) (up_eq _ _ _) (by omega) (by omega) (by decide) dX7_passes_61 ?_
  refine g_at rfl rfl rfl (S2 := (va_up (va_up (va_up (va_up S 93 (AJ w 1200 (updZ (V) (13) ((V 13) + 1)))) 93 (AJ w 1200 (A1))) 93 (AJ w 1200 (updZ (A1) (14 + (V 17 % 3)) (rawV A1)))) 93 (AJ w 1200 (updZ (updZ (A1) (14 + (V 17 % 3)) (rawV A1)) (17) ((V 17) + 1))))) rfl ?_
  obtain ⟨A2, eA2⟩ : ∃ f : Int → Int, f = updZ (updZ (A1) (14 + (V 17 % 3)) (rawV A1)) (17) ((V 17) + 1) := ⟨_, rfl⟩
  refine g_at rfl rfl rfl (S2 := (va_up (va_up (va_up (va_up S 93 (AJ w 1200 (updZ (V) (13) ((V 13) + 1)))) 93 (AJ w 1200 (A1))) 93 (AJ w 1200 (updZ (A1) (14 + (V 17 % 3)) (rawV A1)))) 93 (AJ w 1200 (A2)))) (by rw [eA2]) ?_
  have eA2b : A2 = pa2 V := by rw [eA2, eA1b]; rfl
  clear eA2
  have eA2 := eA2b
  have rw2 : rawV A2 = rawV (pa1 V) := by rw [eA2]; exact rawV_c (pa2_lo (by decide)) (pa2_lo (by decide)) (pa2_lo (by decide))
  have hr2 : rwOK A2 := by
    obtain ⟨u1, u2, u3⟩ := pa1_r hv hl
    unfold rwOK
    rw [eA2, pa2_lo (by decide), pa2_lo (by decide), pa2_lo (by decide)]
    exact ⟨u1, u2, u3⟩
  have g10 : A2 10 = V 10 := by rw [eA2, pa2_lo (by decide), pa1_v V (by decide)]
  have g5 : A2 5 = V 5 := by rw [eA2, pa2_lo (by decide), pa1_v V (by decide)]
  have g12 : A2 12 = V 12 := by rw [eA2, pa2_lo (by decide), pa1_v V (by decide)]
  have hrb1 := rawV_b (pa1_r hv hl)
  have hza : 0 ≤ zabs (rawV (pa1 V) - V 10) ∧ zabs (rawV (pa1 V) - V 10) ≤ 9000000 := by unfold zabs; split <;> omega
  refine g_aload_n (pc := 62) hX 0 rfl dX7_passes_62 ?_
  refine g_get (pc := 63) hX (ci := 7) (fun _ h => List.mem_cons_of_mem _ (List.mem_append_right _ h)) rfl 92 (by omega) (up_ne (by decide) (up_ne (by decide) (up_ne (by decide) (up_ne (by decide) m92)))) 0 (by decide) (List.mem_of_getElem? (i := 1) rfl) rfl (v := .ref (gw_ad w 93)) rfl dX7_passes_63 ?_
  refine g_bipush (pc := 66) hX (by decide) dX7_passes_66 ?_
  refine g_aload_n (pc := 68) hX 0 rfl dX7_passes_68 ?_
  refine g_callV1 (pc := 69) (ci := 7) (As := []) (st2 := [vI (12), .ref (gw_ad w 93)]) hX 92 (by omega) (up_ne (by decide) (up_ne (by decide) (up_ne (by decide) (up_ne (by decide) m92)))) rfl (c_X7_raw hN (show modelAt w pm tm xm at_ wm wh ir A2 PV TY TX MK MM CH AM WT WK FL PI (va_up (va_up (va_up (va_up S 93 (AJ w 1200 (updZ (V) (13) ((V 13) + 1)))) 93 (AJ w 1200 (A1))) 93 (AJ w 1200 (updZ (A1) (14 + (V 17 % 3)) (rawV A1)))) 93 (AJ w 1200 (A2))) from ⟨⟨(up_ne (by decide) (up_ne (by decide) (up_ne (by decide) (up_ne (by decide) m92)))), (up_eq _ _ _), (up_ne (by decide) (up_ne (by decide) (up_ne (by decide) (up_ne (by decide) m94))))⟩, ⟨(up_ne (by decide) (up_ne (by decide) (up_ne (by decide) (up_ne (by decide) m95)))), (up_ne (by decide) (up_ne (by decide) (up_ne (by decide) (up_ne (by decide) m96))))⟩, ⟨(up_ne (by decide) (up_ne (by decide) (up_ne (by decide) (up_ne (by decide) m97)))), (up_ne (by decide) (up_ne (by decide) (up_ne (by decide) (up_ne (by decide) m98)))), (up_ne (by decide) (up_ne (by decide) (up_ne (by decide) (up_ne (by decide) m99)))), (up_ne (by decide) (up_ne (by decide) (up_ne (by decide) (up_ne (by decide) m100)))), (up_ne (by decide) (up_ne (by decide) (up_ne (by decide) (up_ne (by decide) m101))))⟩, ⟨(up_ne (by decide) (up_ne (by decide) (up_ne (by decide) (up_ne (by decide) m102)))), (up_ne (by decide) (up_ne (by decide) (up_ne (by decide) (up_ne (by decide) m103)))), (up_ne (by decide) (up_ne (by decide) (up_ne (by decide) (up_ne (by decide) m104))))⟩⟩) hr2) gX7_passes_X7_raw (n := 0) (hw := rfl) (hrc := rfl) (hrs := rfl) (hd := by decide +kernel) (hR := ⟨Nat.le_of_ble_eq_true rfl, Nat.le_of_ble_eq_true rfl⟩) (hn := rfl) (hst := rfl) (hsum := Nat.le_of_ble_eq_true rfl) (hdg := dX7_passes_69) ?_
  rintro _ S9 ⟨rfl, e9⟩
  rw [e9]
  clear e9 S9
  refine g_at (pc2 := 72) rfl rfl (st2 := [vL (rawV A2), vI (12), .ref (gw_ad w 93)]) rfl (S2 := (va_up (va_up (va_up (va_up S 93 (AJ w 1200 (updZ (V) (13) ((V 13) + 1)))) 93 (AJ w 1200 (A1))) 93 (AJ w 1200 (updZ (A1) (14 + (V 17 % 3)) (rawV A1)))) 93 (AJ w 1200 (A2)))) rfl ?_
  refine g_at rfl rfl (st2 := [vL (rawV (pa1 V)), vI (12), .ref (gw_ad w 93)]) (by rw [show rawV A2 = rawV (pa1 V) from rw2]) rfl ?_
  refine g_aload_n (pc := 72) hX 0 rfl dX7_passes_72 ?_
  refine g_get (pc := 73) hX (ci := 7) (fun _ h => List.mem_cons_of_mem _ (List.mem_append_right _ h)) rfl 92 (by omega) (up_ne (by decide) (up_ne (by decide) (up_ne (by decide) (up_ne (by decide) m92)))) 0 (by decide) (List.mem_of_getElem? (i := 1) rfl) rfl (v := .ref (gw_ad w 93)) rfl dX7_passes_73 ?_
  refine g_bipush (pc := 76) hX (by decide) dX7_passes_76 ?_
  refine g_lald (pc := 78) hX 93 (by omega) (up_eq _ _ _) (by omega) (by omega) (by decide) dX7_passes_78 ?_
  refine g_at rfl rfl (st2 := [vL (V 10), vL (rawV (pa1 V)), vI (12), .ref (gw_ad w 93)]) (by rw [show A2 10 = V 10 from g10]) rfl ?_
  refine g_lsub (pc := 79) hX dX7_passes_79 ?_
  refine g_callT1 (pc := 80) (As := [vL ((rawV (pa1 V)) - (V 10))]) (st2 := [vI (12), .ref (gw_ad w 93)]) hX (c_X7_size (x := (rawV (pa1 V)) - (V 10)) (by first | assumption | exact inI_L (by assumption) | exact inL_mk (by omega) (by omega))) gX7_passes_X7_size (n := 1) (hw := rfl) (hrc := rfl) (hrs := rfl) (hd := by decide +kernel) (hR := ⟨Nat.le_of_ble_eq_true rfl, Nat.le_of_ble_eq_true rfl⟩) (hn := rfl) (hst := rfl) (hsum := Nat.le_of_ble_eq_true rfl) (hdg := dX7_passes_80) ?_
  rintro _ S9 ⟨rfl, e9⟩
  rw [e9]
  clear e9 S9
  refine g_at (pc2 := 83) rfl rfl (st2 := [vL (zabs ((rawV (pa1 V)) - (V 10))), vI (12), .ref (gw_ad w 93)]) rfl (S2 := (va_up (va_up (va_up (va_up S 93 (AJ w 1200 (updZ (V) (13) ((V 13) + 1)))) 93 (AJ w 1200 (A1))) 93 (AJ w 1200 (updZ (A1) (14 + (V 17 % 3)) (rawV A1)))) 93 (AJ w 1200 (A2)))) rfl ?_
  refine g_aload_n (pc := 83) hX 0 rfl dX7_passes_83 ?_
  refine g_get (pc := 84) hX (ci := 7) (fun _ h => List.mem_cons_of_mem _ (List.mem_append_right _ h)) rfl 92 (by omega) (up_ne (by decide) (up_ne (by decide) (up_ne (by decide) (up_ne (by decide) m92)))) 0 (by decide) (List.mem_of_getElem? (i := 1) rfl) rfl (v := .ref (gw_ad w 93)) rfl dX7_passes_84 ?_
  refine g_iconst (pc := 87) hX dX7_passes_87 ?_
  refine g_lald (pc := 88) hX 93 (by omega) (up_eq _ _ _) (by omega) (by omega) (by decide) dX7_passes_88 ?_
  refine g_at rfl rfl (st2 := [vL (V 5), vL (zabs ((rawV (pa1 V)) - (V 10))), vI (12), .ref (gw_ad w 93)]) (by rw [show A2 5 = V 5 from g5]) rfl ?_
  refine g_lcmp_gt (pc := 89) (tgt := 105) hX (by first | assumption | exact inI_L (by assumption) | exact inL_mk (by omega) (by omega)) (by first | assumption | exact inI_L (by assumption) | exact inL_mk (by omega) (by omega)) dX7_passes_89 dX7_passes_90 (by decide) (fun c_89 => ?_) (fun c_89 => ?_)
  · skip
    refine g_lconst (pc := 105) hX (z := 0) rfl dX7_passes_105 ?_
    refine g_last (pc := 106) hX 93 (by omega) (up_eq _ _ _) (by omega) (by omega) (by decide) dX7_passes_106 ?_
    refine g_at rfl rfl rfl (S2 := (va_up (va_up (va_up (va_up (va_up S 93 (AJ w 1200 (updZ (V) (13) ((V 13) + 1)))) 93 (AJ w 1200 (A1))) 93 (AJ w 1200 (updZ (A1) (14 + (V 17 % 3)) (rawV A1)))) 93 (AJ w 1200 (A2))) 93 (AJ w 1200 (updZ (A2) (12) (0))))) rfl ?_
    refine g_aload_n (pc := 107) hX 0 rfl dX7_passes_107 ?_
    refine g_get (pc := 108) hX (ci := 7) (fun _ h => List.mem_cons_of_mem _ (List.mem_append_right _ h)) rfl 92 (by omega) (up_ne (by decide) (up_ne (by decide) (up_ne (by decide) (up_ne (by decide) (up_ne (by decide) m92))))) 0 (by decide) (List.mem_of_getElem? (i := 1) rfl) rfl (v := .ref (gw_ad w 93)) rfl dX7_passes_108 ?_
    refine g_bipush (pc := 111) hX (by decide) dX7_passes_111 ?_
    refine g_lald (pc := 113) hX 93 (by omega) (up_eq _ _ _) (by omega) (by omega) (by decide) dX7_passes_113 ?_
    refine g_at rfl rfl (st2 := [vL (0)]) (by rw [show (updZ (A2) (12) (0)) 12 = 0 from updZ_eq _ _ _]) rfl ?_
    refine g_ldc2 (pc := 114) hX (z := 3) (List.mem_of_getElem? (i := 2) rfl) (by decide +kernel) dX7_passes_114 ?_
    refine g_lcmp_ne (pc := 117) (tgt := 140) hX (by first | assumption | exact inI_L (by assumption) | exact inL_mk (by omega) (by omega)) (by first | assumption | exact inI_L (by assumption) | exact inL_mk (by omega) (by omega)) dX7_passes_117 dX7_passes_118 (by decide) (fun c_117 => ?_) (fun c_117 => ?_)
    · skip
      refine g_vret (pc := 140) hX hR dX7_passes_140 ?_
      have e3 : pa3 V = updZ A2 12 (0) := by
        unfold pa3
        rw [if_neg (by omega), eA2]
      have e4 : pasV V = pa3 V := if_neg (by rw [e3, updZ_eq]; exact c_117)
      rw [e4, e3]
      rw [up_up, up_up, up_up, up_up]
    · skip
      refine g_aload_n (pc := 121) hX 0 rfl dX7_passes_121 ?_
      refine g_get (pc := 122) hX (ci := 7) (fun _ h => List.mem_cons_of_mem _ (List.mem_append_right _ h)) rfl 92 (by omega) (up_ne (by decide) (up_ne (by decide) (up_ne (by decide) (up_ne (by decide) (up_ne (by decide) m92))))) 0 (by decide) (List.mem_of_getElem? (i := 1) rfl) rfl (v := .ref (gw_ad w 93)) rfl dX7_passes_122 ?_
      refine g_bipush (pc := 125) hX (by decide) dX7_passes_125 ?_
      have hr3 : rwOK (updZ (A2) (12) (0)) := by
        obtain ⟨u1, u2, u3⟩ := hr2
        exact ⟨u1, u2, u3⟩
      have rw3 : rawV (updZ (A2) (12) (0)) = rawV (pa1 V) := by rw [← rw2]; rfl
      refine g_aload_n (pc := 127) hX 0 rfl dX7_passes_127 ?_
      refine g_callV1 (pc := 128) (ci := 7) (As := []) (st2 := [vI (10), .ref (gw_ad w 93)]) hX 92 (by omega) (up_ne (by decide) (up_ne (by decide) (up_ne (by decide) (up_ne (by decide) (up_ne (by decide) m92))))) rfl (c_X7_raw hN (show modelAt w pm tm xm at_ wm wh ir (updZ (A2) (12) (0)) PV TY TX MK MM CH AM WT WK FL PI (va_up (va_up (va_up (va_up (va_up S 93 (AJ w 1200 (updZ (V) (13) ((V 13) + 1)))) 93 (AJ w 1200 (A1))) 93 (AJ w 1200 (updZ (A1) (14 + (V 17 % 3)) (rawV A1)))) 93 (AJ w 1200 (A2))) 93 (AJ w 1200 (updZ (A2) (12) (0)))) from ⟨⟨(up_ne (by decide) (up_ne (by decide) (up_ne (by decide) (up_ne (by decide) (up_ne (by decide) m92))))), (up_eq _ _ _), (up_ne (by decide) (up_ne (by decide) (up_ne (by decide) (up_ne (by decide) (up_ne (by decide) m94)))))⟩, ⟨(up_ne (by decide) (up_ne (by decide) (up_ne (by decide) (up_ne (by decide) (up_ne (by decide) m95))))), (up_ne (by decide) (up_ne (by decide) (up_ne (by decide) (up_ne (by decide) (up_ne (by decide) m96)))))⟩, ⟨(up_ne (by decide) (up_ne (by decide) (up_ne (by decide) (up_ne (by decide) (up_ne (by decide) m97))))), (up_ne (by decide) (up_ne (by decide) (up_ne (by decide) (up_ne (by decide) (up_ne (by decide) m98))))), (up_ne (by decide) (up_ne (by decide) (up_ne (by decide) (up_ne (by decide) (up_ne (by decide) m99))))), (up_ne (by decide) (up_ne (by decide) (up_ne (by decide) (up_ne (by decide) (up_ne (by decide) m100))))), (up_ne (by decide) (up_ne (by decide) (up_ne (by decide) (up_ne (by decide) (up_ne (by decide) m101)))))⟩, ⟨(up_ne (by decide) (up_ne (by decide) (up_ne (by decide) (up_ne (by decide) (up_ne (by decide) m102))))), (up_ne (by decide) (up_ne (by decide) (up_ne (by decide) (up_ne (by decide) (up_ne (by decide) m103))))), (up_ne (by decide) (up_ne (by decide) (up_ne (by decide) (up_ne (by decide) (up_ne (by decide) m104)))))⟩⟩) hr3) gX7_passes_X7_raw (n := 0) (hw := rfl) (hrc := rfl) (hrs := rfl) (hd := by decide +kernel) (hR := ⟨Nat.le_of_ble_eq_true rfl, Nat.le_of_ble_eq_true rfl⟩) (hn := rfl) (hst := rfl) (hsum := Nat.le_of_ble_eq_true rfl) (hdg := dX7_passes_128) ?_
      rintro _ S9 ⟨rfl, e9⟩
      rw [e9]
      clear e9 S9
      refine g_at (pc2 := 131) rfl rfl (st2 := [vL (rawV (updZ (A2) (12) (0))), vI (10), .ref (gw_ad w 93)]) rfl (S2 := (va_up (va_up (va_up (va_up (va_up S 93 (AJ w 1200 (updZ (V) (13) ((V 13) + 1)))) 93 (AJ w 1200 (A1))) 93 (AJ w 1200 (updZ (A1) (14 + (V 17 % 3)) (rawV A1)))) 93 (AJ w 1200 (A2))) 93 (AJ w 1200 (updZ (A2) (12) (0))))) rfl ?_
      refine g_at rfl rfl (st2 := [vL (rawV (pa1 V)), vI (10), .ref (gw_ad w 93)]) (by rw [show rawV (updZ (A2) (12) (0)) = rawV (pa1 V) from rw3]) rfl ?_
      refine g_last (pc := 131) hX 93 (by omega) (up_eq _ _ _) (by omega) (by omega) (by decide) dX7_passes_131 ?_
      refine g_at rfl rfl rfl (S2 := (va_up (va_up (va_up (va_up (va_up (va_up S 93 (AJ w 1200 (updZ (V) (13) ((V 13) + 1)))) 93 (AJ w 1200 (A1))) 93 (AJ w 1200 (updZ (A1) (14 + (V 17 % 3)) (rawV A1)))) 93 (AJ w 1200 (A2))) 93 (AJ w 1200 (updZ (A2) (12) (0)))) 93 (AJ w 1200 (updZ (updZ (A2) (12) (0)) (10) (rawV (pa1 V)))))) rfl ?_
      refine g_aload_n (pc := 132) hX 0 rfl dX7_passes_132 ?_
      refine g_get (pc := 133) hX (ci := 7) (fun _ h => List.mem_cons_of_mem _ (List.mem_append_right _ h)) rfl 92 (by omega) (up_ne (by decide) (up_ne (by decide) (up_ne (by decide) (up_ne (by decide) (up_ne (by decide) (up_ne (by decide) m92)))))) 0 (by decide) (List.mem_of_getElem? (i := 1) rfl) rfl (v := .ref (gw_ad w 93)) rfl dX7_passes_133 ?_
      refine g_bipush (pc := 136) hX (by decide) dX7_passes_136 ?_
      refine g_lconst (pc := 138) hX (z := 0) rfl dX7_passes_138 ?_
      refine g_last (pc := 139) hX 93 (by omega) (up_eq _ _ _) (by omega) (by omega) (by decide) dX7_passes_139 ?_
      refine g_at rfl rfl rfl (S2 := (va_up (va_up (va_up (va_up (va_up (va_up (va_up S 93 (AJ w 1200 (updZ (V) (13) ((V 13) + 1)))) 93 (AJ w 1200 (A1))) 93 (AJ w 1200 (updZ (A1) (14 + (V 17 % 3)) (rawV A1)))) 93 (AJ w 1200 (A2))) 93 (AJ w 1200 (updZ (A2) (12) (0)))) 93 (AJ w 1200 (updZ (updZ (A2) (12) (0)) (10) (rawV (pa1 V))))) 93 (AJ w 1200 (updZ (updZ (updZ (A2) (12) (0)) (10) (rawV (pa1 V))) (12) (0))))) rfl ?_
      refine g_vret (pc := 140) hX hR dX7_passes_140 ?_
      have e3 : pa3 V = updZ A2 12 (0) := by
        unfold pa3
        rw [if_neg (by omega), eA2]
      have e4 : pasV V = updZ (updZ (pa3 V) 10 (rawV (pa1 V))) 12 0 := if_pos (by rw [e3, updZ_eq]; exact c_117)
      rw [e4, e3]
      rw [up_up, up_up, up_up, up_up, up_up, up_up]
  · skip
    refine g_aload_n (pc := 93) hX 0 rfl dX7_passes_93 ?_
    refine g_get (pc := 94) hX (ci := 7) (fun _ h => List.mem_cons_of_mem _ (List.mem_append_right _ h)) rfl 92 (by omega) (up_ne (by decide) (up_ne (by decide) (up_ne (by decide) (up_ne (by decide) m92)))) 0 (by decide) (List.mem_of_getElem? (i := 1) rfl) rfl (v := .ref (gw_ad w 93)) rfl dX7_passes_94 ?_
    refine g_bipush (pc := 97) hX (by decide) dX7_passes_97 ?_
    refine g_lald (pc := 99) hX 93 (by omega) (up_eq _ _ _) (by omega) (by omega) (by decide) dX7_passes_99 ?_
    refine g_at rfl rfl (st2 := [vL (V 12), vI (12), .ref (gw_ad w 93)]) (by rw [show A2 12 = V 12 from g12]) rfl ?_
    refine g_lconst (pc := 100) hX (z := 1) rfl dX7_passes_100 ?_
    refine g_ladd (pc := 101) hX dX7_passes_101 ?_
    refine g_goto (pc := 102) (tgt := 106) hX dX7_passes_102 (by decide) ?_
    refine g_last (pc := 106) hX 93 (by omega) (up_eq _ _ _) (by omega) (by omega) (by decide) dX7_passes_106 ?_
    refine g_at rfl rfl rfl (S2 := (va_up (va_up (va_up (va_up (va_up S 93 (AJ w 1200 (updZ (V) (13) ((V 13) + 1)))) 93 (AJ w 1200 (A1))) 93 (AJ w 1200 (updZ (A1) (14 + (V 17 % 3)) (rawV A1)))) 93 (AJ w 1200 (A2))) 93 (AJ w 1200 (updZ (A2) (12) ((V 12) + 1))))) rfl ?_
    refine g_aload_n (pc := 107) hX 0 rfl dX7_passes_107 ?_
    refine g_get (pc := 108) hX (ci := 7) (fun _ h => List.mem_cons_of_mem _ (List.mem_append_right _ h)) rfl 92 (by omega) (up_ne (by decide) (up_ne (by decide) (up_ne (by decide) (up_ne (by decide) (up_ne (by decide) m92))))) 0 (by decide) (List.mem_of_getElem? (i := 1) rfl) rfl (v := .ref (gw_ad w 93)) rfl dX7_passes_108 ?_
    refine g_bipush (pc := 111) hX (by decide) dX7_passes_111 ?_
    refine g_lald (pc := 113) hX 93 (by omega) (up_eq _ _ _) (by omega) (by omega) (by decide) dX7_passes_113 ?_
    refine g_at rfl rfl (st2 := [vL (V 12 + 1)]) (by rw [show (updZ (A2) (12) ((V 12) + 1)) 12 = V 12 + 1 from updZ_eq _ _ _]) rfl ?_
    refine g_ldc2 (pc := 114) hX (z := 3) (List.mem_of_getElem? (i := 2) rfl) (by decide +kernel) dX7_passes_114 ?_
    refine g_lcmp_ne (pc := 117) (tgt := 140) hX (by first | assumption | exact inI_L (by assumption) | exact inL_mk (by omega) (by omega)) (by first | assumption | exact inI_L (by assumption) | exact inL_mk (by omega) (by omega)) dX7_passes_117 dX7_passes_118 (by decide) (fun c_117 => ?_) (fun c_117 => ?_)
    · skip
      refine g_vret (pc := 140) hX hR dX7_passes_140 ?_
      have e3 : pa3 V = updZ A2 12 (V 12 + 1) := by
        unfold pa3
        rw [if_pos (by omega), eA2]
      have e4 : pasV V = pa3 V := if_neg (by rw [e3, updZ_eq]; exact c_117)
      rw [e4, e3]
      rw [up_up, up_up, up_up, up_up]
    · skip
      refine g_aload_n (pc := 121) hX 0 rfl dX7_passes_121 ?_
      refine g_get (pc := 122) hX (ci := 7) (fun _ h => List.mem_cons_of_mem _ (List.mem_append_right _ h)) rfl 92 (by omega) (up_ne (by decide) (up_ne (by decide) (up_ne (by decide) (up_ne (by decide) (up_ne (by decide) m92))))) 0 (by decide) (List.mem_of_getElem? (i := 1) rfl) rfl (v := .ref (gw_ad w 93)) rfl dX7_passes_122 ?_
      refine g_bipush (pc := 125) hX (by decide) dX7_passes_125 ?_
      have hr3 : rwOK (updZ (A2) (12) ((V 12) + 1)) := by
        obtain ⟨u1, u2, u3⟩ := hr2
        exact ⟨u1, u2, u3⟩
      have rw3 : rawV (updZ (A2) (12) ((V 12) + 1)) = rawV (pa1 V) := by rw [← rw2]; rfl
      refine g_aload_n (pc := 127) hX 0 rfl dX7_passes_127 ?_
      refine g_callV1 (pc := 128) (ci := 7) (As := []) (st2 := [vI (10), .ref (gw_ad w 93)]) hX 92 (by omega) (up_ne (by decide) (up_ne (by decide) (up_ne (by decide) (up_ne (by decide) (up_ne (by decide) m92))))) rfl (c_X7_raw hN (show modelAt w pm tm xm at_ wm wh ir (updZ (A2) (12) ((V 12) + 1)) PV TY TX MK MM CH AM WT WK FL PI (va_up (va_up (va_up (va_up (va_up S 93 (AJ w 1200 (updZ (V) (13) ((V 13) + 1)))) 93 (AJ w 1200 (A1))) 93 (AJ w 1200 (updZ (A1) (14 + (V 17 % 3)) (rawV A1)))) 93 (AJ w 1200 (A2))) 93 (AJ w 1200 (updZ (A2) (12) ((V 12) + 1)))) from ⟨⟨(up_ne (by decide) (up_ne (by decide) (up_ne (by decide) (up_ne (by decide) (up_ne (by decide) m92))))), (up_eq _ _ _), (up_ne (by decide) (up_ne (by decide) (up_ne (by decide) (up_ne (by decide) (up_ne (by decide) m94)))))⟩, ⟨(up_ne (by decide) (up_ne (by decide) (up_ne (by decide) (up_ne (by decide) (up_ne (by decide) m95))))), (up_ne (by decide) (up_ne (by decide) (up_ne (by decide) (up_ne (by decide) (up_ne (by decide) m96)))))⟩, ⟨(up_ne (by decide) (up_ne (by decide) (up_ne (by decide) (up_ne (by decide) (up_ne (by decide) m97))))), (up_ne (by decide) (up_ne (by decide) (up_ne (by decide) (up_ne (by decide) (up_ne (by decide) m98))))), (up_ne (by decide) (up_ne (by decide) (up_ne (by decide) (up_ne (by decide) (up_ne (by decide) m99))))), (up_ne (by decide) (up_ne (by decide) (up_ne (by decide) (up_ne (by decide) (up_ne (by decide) m100))))), (up_ne (by decide) (up_ne (by decide) (up_ne (by decide) (up_ne (by decide) (up_ne (by decide) m101)))))⟩, ⟨(up_ne (by decide) (up_ne (by decide) (up_ne (by decide) (up_ne (by decide) (up_ne (by decide) m102))))), (up_ne (by decide) (up_ne (by decide) (up_ne (by decide) (up_ne (by decide) (up_ne (by decide) m103))))), (up_ne (by decide) (up_ne (by decide) (up_ne (by decide) (up_ne (by decide) (up_ne (by decide) m104)))))⟩⟩) hr3) gX7_passes_X7_raw (n := 0) (hw := rfl) (hrc := rfl) (hrs := rfl) (hd := by decide +kernel) (hR := ⟨Nat.le_of_ble_eq_true rfl, Nat.le_of_ble_eq_true rfl⟩) (hn := rfl) (hst := rfl) (hsum := Nat.le_of_ble_eq_true rfl) (hdg := dX7_passes_128) ?_
      rintro _ S9 ⟨rfl, e9⟩
      rw [e9]
      clear e9 S9
      refine g_at (pc2 := 131) rfl rfl (st2 := [vL (rawV (updZ (A2) (12) ((V 12) + 1))), vI (10), .ref (gw_ad w 93)]) rfl (S2 := (va_up (va_up (va_up (va_up (va_up S 93 (AJ w 1200 (updZ (V) (13) ((V 13) + 1)))) 93 (AJ w 1200 (A1))) 93 (AJ w 1200 (updZ (A1) (14 + (V 17 % 3)) (rawV A1)))) 93 (AJ w 1200 (A2))) 93 (AJ w 1200 (updZ (A2) (12) ((V 12) + 1))))) rfl ?_
      refine g_at rfl rfl (st2 := [vL (rawV (pa1 V)), vI (10), .ref (gw_ad w 93)]) (by rw [show rawV (updZ (A2) (12) ((V 12) + 1)) = rawV (pa1 V) from rw3]) rfl ?_
      refine g_last (pc := 131) hX 93 (by omega) (up_eq _ _ _) (by omega) (by omega) (by decide) dX7_passes_131 ?_
      refine g_at rfl rfl rfl (S2 := (va_up (va_up (va_up (va_up (va_up (va_up S 93 (AJ w 1200 (updZ (V) (13) ((V 13) + 1)))) 93 (AJ w 1200 (A1))) 93 (AJ w 1200 (updZ (A1) (14 + (V 17 % 3)) (rawV A1)))) 93 (AJ w 1200 (A2))) 93 (AJ w 1200 (updZ (A2) (12) ((V 12) + 1)))) 93 (AJ w 1200 (updZ (updZ (A2) (12) ((V 12) + 1)) (10) (rawV (pa1 V)))))) rfl ?_
      refine g_aload_n (pc := 132) hX 0 rfl dX7_passes_132 ?_
      refine g_get (pc := 133) hX (ci := 7) (fun _ h => List.mem_cons_of_mem _ (List.mem_append_right _ h)) rfl 92 (by omega) (up_ne (by decide) (up_ne (by decide) (up_ne (by decide) (up_ne (by decide) (up_ne (by decide) (up_ne (by decide) m92)))))) 0 (by decide) (List.mem_of_getElem? (i := 1) rfl) rfl (v := .ref (gw_ad w 93)) rfl dX7_passes_133 ?_
      refine g_bipush (pc := 136) hX (by decide) dX7_passes_136 ?_
      refine g_lconst (pc := 138) hX (z := 0) rfl dX7_passes_138 ?_
      refine g_last (pc := 139) hX 93 (by omega) (up_eq _ _ _) (by omega) (by omega) (by decide) dX7_passes_139 ?_
      refine g_at rfl rfl rfl (S2 := (va_up (va_up (va_up (va_up (va_up (va_up (va_up S 93 (AJ w 1200 (updZ (V) (13) ((V 13) + 1)))) 93 (AJ w 1200 (A1))) 93 (AJ w 1200 (updZ (A1) (14 + (V 17 % 3)) (rawV A1)))) 93 (AJ w 1200 (A2))) 93 (AJ w 1200 (updZ (A2) (12) ((V 12) + 1)))) 93 (AJ w 1200 (updZ (updZ (A2) (12) ((V 12) + 1)) (10) (rawV (pa1 V))))) 93 (AJ w 1200 (updZ (updZ (updZ (A2) (12) ((V 12) + 1)) (10) (rawV (pa1 V))) (12) (0))))) rfl ?_
      refine g_vret (pc := 140) hX hR dX7_passes_140 ?_
      have e3 : pa3 V = updZ A2 12 (V 12 + 1) := by
        unfold pa3
        rw [if_pos (by omega), eA2]
      have e4 : pasV V = updZ (updZ (pa3 V) 10 (rawV (pa1 V))) 12 0 := if_pos (by rw [e3, updZ_eq]; exact c_117)
      rw [e4, e3]
      rw [up_up, up_up, up_up, up_up, up_up, up_up]

set_option maxHeartbeats 4000000 in
set_option maxRecDepth 100000 in
theorem c_X7_tick {w : gW} {l : Launch} {S : Nat → va_E} {pm tm xm at_ wm wh : Int} {ir : Bool} {V PV TY TX MK MM CH AM WT WK FL PI : Int → Int} (hN : gw_N w = 105) (hm : modelAt w pm tm xm at_ wm wh ir V PV TY TX MK MM CH AM WT WK FL PI S) (hv : mOK V) (hpm : 0 ≤ pm ∧ pm ≤ 4) {t : Int} (ht : inI t) :
    GM1 w l yX7_tick wsX7_tick { frames := 3, cells := 0, slots := 0, locals := 65 } [.ref (gw_ad w 92), vI (t)] S
      (fun v S' => if 1 ≤ t ∧ t ≤ 100 then (if V 13 ≤ 100000 - t then v = vI (rawV (tikV V t.toNat)) ∧ POSTM w S (actN pm) tm xm at_ wm wh ir (tikV V t.toNat) (actP pm PV V) TY TX MK MM CH AM WT WK FL PI S' else v = vI (-1000002) ∧ S' = S) else v = vI (-1000001) ∧ S' = S) := by
  refine GM.start (own := RX7) (n := "tick") (d := "(I)I") (by decide) rfl (Nat.le_of_ble_eq_true rfl) ?_
  intro X hX hR hXl
  subst hXl
  refine g_at rfl (lv2 := [(0, .ref (gw_ad w 92)), (1, vI (t))]) rfl rfl rfl ?_
  obtain ⟨⟨m92, m93, m94⟩, ⟨m95, m96⟩, ⟨m97, m98, m99, m100, m101⟩, ⟨m102, m103, m104⟩⟩ := (id hm)
  have hr := hv.r
  have hrm := rawV_m hr
  have hrb := rawV_b hr
  obtain ⟨⟨⟨⟨f0a, f0b⟩, ⟨f1a, f1b⟩, ⟨f2a, f2b⟩, ⟨f3a, f3b⟩⟩, ⟨⟨f4a, f4b⟩, ⟨f5a, f5b⟩, ⟨f6a, f6b⟩, ⟨f7a, f7b⟩⟩⟩, ⟨⟨a8a, a8b⟩, ⟨a9a, a9b⟩, ⟨a10a, a10b⟩, ⟨a11a, a11b⟩, ⟨a12a, a12b⟩, ⟨a13a, a13b⟩⟩, ⟨⟨a14a, a14b⟩, ⟨a15a, a15b⟩, ⟨a16a, a16b⟩, ⟨a17a, a17b⟩⟩⟩ := id hv
  refine g_iload_n (pc := 0) hX 1 rfl dX7_tick_0 ?_
  refine g_i2l (pc := 1) hX (by first | assumption | exact inI_mk (by omega) (by omega)) dX7_tick_1 ?_
  refine g_lconst (pc := 2) hX (z := 1) rfl dX7_tick_2 ?_
  refine g_ldc2 (pc := 3) hX (z := 100) (List.mem_of_getElem? (i := 1) rfl) (by decide +kernel) dX7_tick_3 ?_
  refine g_callT1 (pc := 6) (As := [vL (t), vL (1), vL (100)]) (st2 := []) hX (c_X7_in (x := t) (a := 1) (b := 100) (by first | assumption | exact inI_L (by assumption) | exact inL_mk (by omega) (by omega)) (by first | assumption | exact inI_L (by assumption) | exact inL_mk (by omega) (by omega)) (by first | assumption | exact inI_L (by assumption) | exact inL_mk (by omega) (by omega))) gX7_tick_X7_in (n := 3) (hw := rfl) (hrc := rfl) (hrs := rfl) (hd := by decide +kernel) (hR := ⟨Nat.le_of_ble_eq_true rfl, Nat.le_of_ble_eq_true rfl⟩) (hn := rfl) (hst := rfl) (hsum := Nat.le_of_ble_eq_true rfl) (hdg := dX7_tick_6) ?_
  rintro _ S9 ⟨rfl, e9⟩
  rw [e9]
  clear e9 S9
  refine g_at (pc2 := 9) rfl rfl (st2 := [vI (bz (decide (1 ≤ t ∧ t ≤ 100)))]) rfl (S2 := S) rfl ?_
  refine g_bif_ne (pc := 9) (tgt := 15) hX dX7_tick_9 (by decide) (fun c_9 => ?_) (fun c_9 => ?_)
  · skip
    have hidx := of_decide_eq_true c_9
    refine g_aload_n (pc := 15) hX 0 rfl dX7_tick_15 ?_
    refine g_get (pc := 16) hX (ci := 7) (fun _ h => List.mem_cons_of_mem _ (List.mem_append_right _ h)) rfl 92 (by omega) m92 0 (by decide) (List.mem_of_getElem? (i := 3) rfl) rfl (v := .ref (gw_ad w 93)) rfl dX7_tick_16 ?_
    refine g_bipush (pc := 19) hX (by decide) dX7_tick_19 ?_
    refine g_lald (pc := 21) hX 93 (by omega) m93 (by omega) (by omega) (by decide) dX7_tick_21 ?_
    refine g_iload_n (pc := 22) hX 1 rfl dX7_tick_22 ?_
    refine g_i2l (pc := 23) hX (by first | assumption | exact inI_mk (by omega) (by omega)) dX7_tick_23 ?_
    refine g_ladd (pc := 24) hX dX7_tick_24 ?_
    refine g_ldc2 (pc := 25) hX (z := 100000) (List.mem_of_getElem? (i := 4) rfl) (by decide +kernel) dX7_tick_25 ?_
    refine g_lcmp_le (pc := 28) (tgt := 35) hX (by first | assumption | exact inI_L (by assumption) | exact inL_mk (by omega) (by omega)) (by first | assumption | exact inI_L (by assumption) | exact inL_mk (by omega) (by omega)) dX7_tick_28 dX7_tick_29 (by decide) (fun c_28 => ?_) (fun c_28 => ?_)
    · skip
      refine g_aload_n (pc := 35) hX 0 rfl dX7_tick_35 ?_
      have hidy := c_28
      refine g_callV0 (pc := 36) (ci := 7) (As := []) (st2 := []) hX 92 (by omega) m92 rfl (c_X7_act hN hm hpm) gX7_tick_X7_act (n := 0) (hw := rfl) (hrc := rfl) (hrs := rfl) (hd := by decide +kernel) (hR := ⟨Nat.le_of_ble_eq_true rfl, Nat.le_of_ble_eq_true rfl⟩) (hn := rfl) (hst := rfl) (hsum := Nat.le_of_ble_eq_true rfl) (hdg := dX7_tick_36) ?_
      rintro S36 hP36
      obtain ⟨⟨m36_92, m36_93, m36_94⟩, ⟨m36_95, m36_96⟩, ⟨m36_97, m36_98, m36_99, m36_100, m36_101⟩, ⟨m36_102, m36_103, m36_104⟩⟩ := hP36.1
      refine g_at (pc2 := 39) rfl rfl (st2 := []) rfl (S2 := S36) rfl ?_
      refine g_iconst (pc := 39) hX dX7_tick_39 ?_
      refine g_istore_n (pc := 40) hX (lv2 := [(2, vI (0)), (0, .ref (gw_ad w 92)), (1, vI (t))]) rfl (by decide) rfl dX7_tick_40 ?_
      have loop : ∀ (n0 : Nat) (c : Int), 0 ≤ c → c ≤ t → t - c < n0 → G w { frames := 3, cells := 0, slots := 0, locals := 65 } X 3 41 [(2, vI (c)), (0, .ref (gw_ad w 92)), (1, vI (t))] [] (va_up S36 93 (AJ w 1200 (tikV V (c : Int).toNat))) := by
        intro n0
        induction n0 with
        | zero => intro c  h1c h2c h3c; exact absurd h3c (by omega)
        | succ n0 ihloop =>
          intro c  h1c h2c h3c 
          have hc : inI c := inI_mk (by omega) (by omega)
          have htk := mOK_tik hv (c : Int).toNat (by omega)
          refine g_iload_n (pc := 41) hX 0 rfl dX7_tick_41 ?_
          refine g_iload_n (pc := 42) hX 2 rfl dX7_tick_42 ?_
          refine g_icmp_ge (pc := 43) (tgt := 56) hX (by first | assumption | exact inI_mk (by omega) (by omega)) (by first | assumption | exact inI_mk (by omega) (by omega)) dX7_tick_43 (by decide) (fun c_43 => ?_) (fun c_43 => ?_)
          · skip
            refine g_aload_n (pc := 56) hX 1 rfl dX7_tick_56 ?_
            refine g_callV1 (pc := 57) (ci := 7) (As := []) (st2 := []) hX 92 (by omega) (up_ne (by decide) m36_92) rfl (c_X7_raw hN (show modelAt w (actN pm) tm xm at_ wm wh ir (tikV V (c : Int).toNat) (actP pm PV V) TY TX MK MM CH AM WT WK FL PI (va_up S36 93 (AJ w 1200 (tikV V (c : Int).toNat))) from ⟨⟨(up_ne (by decide) m36_92), (up_eq _ _ _), (up_ne (by decide) m36_94)⟩, ⟨(up_ne (by decide) m36_95), (up_ne (by decide) m36_96)⟩, ⟨(up_ne (by decide) m36_97), (up_ne (by decide) m36_98), (up_ne (by decide) m36_99), (up_ne (by decide) m36_100), (up_ne (by decide) m36_101)⟩, ⟨(up_ne (by decide) m36_102), (up_ne (by decide) m36_103), (up_ne (by decide) m36_104)⟩⟩) htk.1.r) gX7_tick_X7_raw (n := 0) (hw := rfl) (hrc := rfl) (hrs := rfl) (hd := by decide +kernel) (hR := ⟨Nat.le_of_ble_eq_true rfl, Nat.le_of_ble_eq_true rfl⟩) (hn := rfl) (hst := rfl) (hsum := Nat.le_of_ble_eq_true rfl) (hdg := dX7_tick_57) ?_
            rintro _ S9 ⟨rfl, e9⟩
            rw [e9]
            clear e9 S9
            refine g_at (pc2 := 60) rfl rfl (st2 := [vL (rawV (tikV V (c : Int).toNat))]) rfl (S2 := (va_up S36 93 (AJ w 1200 (tikV V (c : Int).toNat)))) rfl ?_
            refine g_l2i (pc := 60) hX dX7_tick_60 ?_
            refine g_iret (pc := 61) hX hR dX7_tick_61 ?_
            try simp only [decide_eq_true_eq, decide_eq_false_iff_not] at c_43
            have hct : c = t := by omega
            subst hct
            exact (if_pos (by omega)).mpr ((if_pos (by omega)).mpr (⟨rfl, ⟨⟨⟨(up_ne (by decide) m36_92), (up_eq _ _ _), (up_ne (by decide) m36_94)⟩, ⟨(up_ne (by decide) m36_95), (up_ne (by decide) m36_96)⟩, ⟨(up_ne (by decide) m36_97), (up_ne (by decide) m36_98), (up_ne (by decide) m36_99), (up_ne (by decide) m36_100), (up_ne (by decide) m36_101)⟩, ⟨(up_ne (by decide) m36_102), (up_ne (by decide) m36_103), (up_ne (by decide) m36_104)⟩⟩, fun q hq => (up_ne (by omega) ((hP36.2 q hq).trans rfl))⟩⟩))
          · skip
            refine g_aload_n (pc := 46) hX 1 rfl dX7_tick_46 ?_
            refine g_callV0 (pc := 47) (ci := 7) (As := []) (st2 := []) hX 92 (by omega) (up_ne (by decide) m36_92) rfl (c_X7_passes hN (show modelAt w (actN pm) tm xm at_ wm wh ir (tikV V (c : Int).toNat) (actP pm PV V) TY TX MK MM CH AM WT WK FL PI (va_up S36 93 (AJ w 1200 (tikV V (c : Int).toNat))) from ⟨⟨(up_ne (by decide) m36_92), (up_eq _ _ _), (up_ne (by decide) m36_94)⟩, ⟨(up_ne (by decide) m36_95), (up_ne (by decide) m36_96)⟩, ⟨(up_ne (by decide) m36_97), (up_ne (by decide) m36_98), (up_ne (by decide) m36_99), (up_ne (by decide) m36_100), (up_ne (by decide) m36_101)⟩, ⟨(up_ne (by decide) m36_102), (up_ne (by decide) m36_103), (up_ne (by decide) m36_104)⟩⟩) htk.1 (by omega)) gX7_tick_X7_passes (n := 0) (hw := rfl) (hrc := rfl) (hrs := rfl) (hd := by decide +kernel) (hR := ⟨Nat.le_of_ble_eq_true rfl, Nat.le_of_ble_eq_true rfl⟩) (hn := rfl) (hst := rfl) (hsum := Nat.le_of_ble_eq_true rfl) (hdg := dX7_tick_47) ?_
            rintro _ rfl
            refine g_at (pc2 := 50) rfl rfl (st2 := []) rfl (S2 := (va_up (va_up S36 93 (AJ w 1200 (tikV V (c : Int).toNat))) 93 (AJ w 1200 (pasV (tikV V (c : Int).toNat))))) rfl ?_
            refine g_iinc (pc := 50) hX (lv2 := [(2, vI (c + 1)), (0, .ref (gw_ad w 92)), (1, vI (t))]) 0 rfl (by decide) rfl dX7_tick_50 ?_
            refine g_goto (pc := 53) (tgt := 41) hX dX7_tick_53 (by decide) ?_
            refine g_sub (lv2 := [(2, vI (c + 1)), (0, .ref (gw_ad w 92)), (1, vI (t))]) [0, 1, 2] rfl ?_
            refine g_at rfl (lv2 := [(2, vI (c + 1)), (0, .ref (gw_ad w 92)), (1, vI (t))]) (rfl) rfl (S2 := (va_up S36 93 (AJ w 1200 (tikV V (c + 1 : Int).toNat)))) (by rw [up_up, ← tikV_s V h1c]) ?_
            exact ihloop (c + 1)  (by omega) (by omega) (by omega) 
      refine g_sub (lv2 := [(2, vI (0)), (0, .ref (gw_ad w 92)), (1, vI (t))]) [0, 1, 2] rfl ?_
      refine g_at rfl (lv2 := [(2, vI (0)), (0, .ref (gw_ad w 92)), (1, vI (t))]) (rfl) rfl (S2 := (va_up S36 93 (AJ w 1200 (tikV V (0 : Int).toNat)))) (by rw [show tikV V (0 : Int).toNat = V from rfl, up_self (f := S36) m36_93]) ?_
      exact loop ((t : Int) - 0 + 1).toNat 0  (by omega) (by omega) (by omega) 
    · skip
      refine g_ldc (pc := 32) hX (z := -1000002) (List.mem_of_getElem? (i := 5) rfl) (by decide +kernel) dX7_tick_32 ?_
      refine g_iret (pc := 34) hX hR dX7_tick_34 ?_
      try simp only [decide_eq_true_eq, decide_eq_false_iff_not] at c_9 c_28
      exact (if_pos (by omega)).mpr ((if_neg (by omega)).mpr (⟨rfl, rfl⟩))
  · skip
    refine g_ldc (pc := 12) hX (z := -1000001) (List.mem_of_getElem? (i := 2) rfl) (by decide +kernel) dX7_tick_12 ?_
    refine g_iret (pc := 14) hX hR dX7_tick_14 ?_
    try simp only [decide_eq_true_eq, decide_eq_false_iff_not] at c_9
    exact (if_neg (by omega)).mpr (⟨rfl, rfl⟩)

set_option maxHeartbeats 4000000 in
set_option maxRecDepth 100000 in
theorem c_X7_set {w : gW} {l : Launch} {S : Nat → va_E} {pm tm xm at_ wm wh : Int} {ir : Bool} {V PV TY TX MK MM CH AM WT WK FL PI : Int → Int} (hN : gw_N w = 105) (hm : modelAt w pm tm xm at_ wm wh ir V PV TY TX MK MM CH AM WT WK FL PI S) (hpm : 0 ≤ pm ∧ pm ≤ 4) {i x : Int} (hi : inI i) (hx : inI x) :
    GM1 w l yX7_set wsX7_set { frames := 2, cells := 0, slots := 0, locals := 46 } [.ref (gw_ad w 92), vI (i), vI (x)] S
      (fun v S' => if setOK i x then v = vI (V i) ∧ POSTM w S (actN pm) tm xm at_ wm wh ir (updZ V i x) (actP pm PV V) TY TX MK MM CH AM WT WK FL PI S' else v = vI (-1000001) ∧ S' = S) := by
  refine GM.start (own := RX7) (n := "set") (d := "(II)I") (by decide) rfl (Nat.le_of_ble_eq_true rfl) ?_
  intro X hX hR hXl
  subst hXl
  refine g_at rfl (lv2 := [(0, .ref (gw_ad w 92)), (1, vI (i)), (2, vI (x))]) rfl rfl rfl ?_
  obtain ⟨⟨m92, m93, m94⟩, ⟨m95, m96⟩, ⟨m97, m98, m99, m100, m101⟩, ⟨m102, m103, m104⟩⟩ := (id hm)
  refine g_iload_n (pc := 0) hX 1 rfl dX7_set_0 ?_
  refine g_iload_n (pc := 1) hX 2 rfl dX7_set_1 ?_
  refine g_callT1 (pc := 2) (As := [vI (i), vI (x)]) (st2 := []) hX (c_X7_isIn (i := i) (x := x) (by first | assumption | exact inI_mk (by omega) (by omega)) (by first | assumption | exact inI_mk (by omega) (by omega))) gX7_set_X7_isIn (n := 2) (hw := rfl) (hrc := rfl) (hrs := rfl) (hd := by decide +kernel) (hR := ⟨Nat.le_of_ble_eq_true rfl, Nat.le_of_ble_eq_true rfl⟩) (hn := rfl) (hst := rfl) (hsum := Nat.le_of_ble_eq_true rfl) (hdg := dX7_set_2) ?_
  rintro _ S9 ⟨rfl, e9⟩
  rw [e9]
  clear e9 S9
  refine g_at (pc2 := 5) rfl rfl (st2 := [vI (bz (decide (setOK i x)))]) rfl (S2 := S) rfl ?_
  refine g_bif_eq (pc := 5) (tgt := 17) hX dX7_set_5 (by decide) (fun c_5 => ?_) (fun c_5 => ?_)
  · skip
    refine g_ldc (pc := 17) hX (z := -1000001) (List.mem_of_getElem? (i := 1) rfl) (by decide +kernel) dX7_set_17 ?_
    refine g_iret (pc := 19) hX hR dX7_set_19 ?_
    try simp only [decide_eq_true_eq, decide_eq_false_iff_not] at c_5
    exact (if_neg (c_5)).mpr (⟨rfl, rfl⟩)
  · skip
    have hidx := of_decide_eq_true c_5
    have hidx1 := hidx.1
    refine g_aload_n (pc := 8) hX 0 rfl dX7_set_8 ?_
    refine g_iload_n (pc := 9) hX 1 rfl dX7_set_9 ?_
    refine g_iload_n (pc := 10) hX 2 rfl dX7_set_10 ?_
    refine g_callV1 (pc := 11) (ci := 7) (As := [vI (i), vI (x)]) (st2 := []) hX 92 (by omega) m92 rfl (c_X7_sets hN hm (i := i) (x := x) hpm (by omega) (by omega) (by first | assumption | exact inI_mk (by omega) (by omega))) gX7_set_X7_sets (n := 2) (hw := rfl) (hrc := rfl) (hrs := rfl) (hd := by decide +kernel) (hR := ⟨Nat.le_of_ble_eq_true rfl, Nat.le_of_ble_eq_true rfl⟩) (hn := rfl) (hst := rfl) (hsum := Nat.le_of_ble_eq_true rfl) (hdg := dX7_set_11) ?_
    rintro _ S11 ⟨rfl, hP11⟩
    obtain ⟨⟨m11_92, m11_93, m11_94⟩, ⟨m11_95, m11_96⟩, ⟨m11_97, m11_98, m11_99, m11_100, m11_101⟩, ⟨m11_102, m11_103, m11_104⟩⟩ := hP11.1
    refine g_at (pc2 := 14) rfl rfl (st2 := [vI (V i)]) rfl (S2 := S11) rfl ?_
    refine g_goto (pc := 14) (tgt := 19) hX dX7_set_14 (by decide) ?_
    refine g_iret (pc := 19) hX hR dX7_set_19 ?_
    try simp only [decide_eq_true_eq, decide_eq_false_iff_not] at c_5
    exact (if_pos (c_5)).mpr (⟨rfl, ⟨⟨⟨m11_92, m11_93, m11_94⟩, ⟨m11_95, m11_96⟩, ⟨m11_97, m11_98, m11_99, m11_100, m11_101⟩, ⟨m11_102, m11_103, m11_104⟩⟩, fun q hq => ((hP11.2 q hq).trans rfl)⟩⟩)

set_option maxHeartbeats 4000000 in
set_option maxRecDepth 100000 in
theorem c_X7_load {w : gW} {l : Launch} {S : Nat → va_E} {pm tm xm at_ wm wh : Int} {ir : Bool} {V PV TY TX MK MM CH AM WT WK FL PI : Int → Int} (hN : gw_N w = 105) (hm : modelAt w pm tm xm at_ wm wh ir V PV TY TX MK MM CH AM WT WK FL PI S) (hpm : 0 ≤ pm ∧ pm ≤ 4) {x : Int} (hx : inI x) :
    GM1 w l yX7_load wsX7_load { frames := 2, cells := 0, slots := 0, locals := 44 } [.ref (gw_ad w 92), vI (x)] S
      (fun v S' => if 0 ≤ x ∧ x ≤ 100000 then v = vI (V 8) ∧ POSTM w S (actN pm) tm xm at_ wm wh ir (updZ (updZ V 8 x) 17 0) (actP pm PV V) TY TX MK MM CH AM WT WK FL PI S' else v = vI (-1000001) ∧ S' = S) := by
  refine GM.start (own := RX7) (n := "load") (d := "(I)I") (by decide) rfl (Nat.le_of_ble_eq_true rfl) ?_
  intro X hX hR hXl
  subst hXl
  refine g_at rfl (lv2 := [(0, .ref (gw_ad w 92)), (1, vI (x))]) rfl rfl rfl ?_
  obtain ⟨⟨m92, m93, m94⟩, ⟨m95, m96⟩, ⟨m97, m98, m99, m100, m101⟩, ⟨m102, m103, m104⟩⟩ := (id hm)
  refine g_iload_n (pc := 0) hX 1 rfl dX7_load_0 ?_
  refine g_i2l (pc := 1) hX (by first | assumption | exact inI_mk (by omega) (by omega)) dX7_load_1 ?_
  refine g_lconst (pc := 2) hX (z := 0) rfl dX7_load_2 ?_
  refine g_ldc2 (pc := 3) hX (z := 100000) (List.mem_of_getElem? (i := 1) rfl) (by decide +kernel) dX7_load_3 ?_
  refine g_callT1 (pc := 6) (As := [vL (x), vL (0), vL (100000)]) (st2 := []) hX (c_X7_in (x := x) (a := 0) (b := 100000) (by first | assumption | exact inI_L (by assumption) | exact inL_mk (by omega) (by omega)) (by first | assumption | exact inI_L (by assumption) | exact inL_mk (by omega) (by omega)) (by first | assumption | exact inI_L (by assumption) | exact inL_mk (by omega) (by omega))) gX7_load_X7_in (n := 3) (hw := rfl) (hrc := rfl) (hrs := rfl) (hd := by decide +kernel) (hR := ⟨Nat.le_of_ble_eq_true rfl, Nat.le_of_ble_eq_true rfl⟩) (hn := rfl) (hst := rfl) (hsum := Nat.le_of_ble_eq_true rfl) (hdg := dX7_load_6) ?_
  rintro _ S9 ⟨rfl, e9⟩
  rw [e9]
  clear e9 S9
  refine g_at (pc2 := 9) rfl rfl (st2 := [vI (bz (decide (0 ≤ x ∧ x ≤ 100000)))]) rfl (S2 := S) rfl ?_
  refine g_bif_ne (pc := 9) (tgt := 15) hX dX7_load_9 (by decide) (fun c_9 => ?_) (fun c_9 => ?_)
  · skip
    refine g_aload_n (pc := 15) hX 0 rfl dX7_load_15 ?_
    refine g_bipush (pc := 16) hX (by decide) dX7_load_16 ?_
    refine g_iload_n (pc := 18) hX 1 rfl dX7_load_18 ?_
    refine g_callV1 (pc := 19) (ci := 7) (As := [vI (8), vI (x)]) (st2 := []) hX 92 (by omega) m92 rfl (c_X7_sets hN hm (i := 8) (x := x) hpm (by omega) (by omega) (by first | assumption | exact inI_mk (by omega) (by omega))) gX7_load_X7_sets (n := 2) (hw := rfl) (hrc := rfl) (hrs := rfl) (hd := by decide +kernel) (hR := ⟨Nat.le_of_ble_eq_true rfl, Nat.le_of_ble_eq_true rfl⟩) (hn := rfl) (hst := rfl) (hsum := Nat.le_of_ble_eq_true rfl) (hdg := dX7_load_19) ?_
    rintro _ S19 ⟨rfl, hP19⟩
    obtain ⟨⟨m19_92, m19_93, m19_94⟩, ⟨m19_95, m19_96⟩, ⟨m19_97, m19_98, m19_99, m19_100, m19_101⟩, ⟨m19_102, m19_103, m19_104⟩⟩ := hP19.1
    refine g_at (pc2 := 22) rfl rfl (st2 := [vI (V 8)]) rfl (S2 := S19) rfl ?_
    refine g_istore_n (pc := 22) hX (lv2 := [(2, vI (V 8)), (0, .ref (gw_ad w 92)), (1, vI (x))]) rfl (by decide) rfl dX7_load_22 ?_
    refine g_aload_n (pc := 23) hX 1 rfl dX7_load_23 ?_
    refine g_get (pc := 24) hX (ci := 7) (fun _ h => List.mem_cons_of_mem _ (List.mem_append_right _ h)) rfl 92 (by omega) m19_92 0 (by decide) (List.mem_of_getElem? (i := 3) rfl) rfl (v := .ref (gw_ad w 93)) rfl dX7_load_24 ?_
    refine g_bipush (pc := 27) hX (by decide) dX7_load_27 ?_
    refine g_lconst (pc := 29) hX (z := 0) rfl dX7_load_29 ?_
    refine g_last (pc := 30) hX 93 (by omega) m19_93 (by omega) (by omega) (by decide) dX7_load_30 ?_
    refine g_at rfl rfl rfl (S2 := (va_up S19 93 (AJ w 1200 (updZ (updZ V 8 x) (17) (0))))) rfl ?_
    refine g_iload_n (pc := 31) hX 0 rfl dX7_load_31 ?_
    refine g_iret (pc := 32) hX hR dX7_load_32 ?_
    try simp only [decide_eq_true_eq, decide_eq_false_iff_not] at c_9
    exact (if_pos (by omega)).mpr (⟨rfl, ⟨⟨⟨(up_ne (by decide) m19_92), (up_eq _ _ _), (up_ne (by decide) m19_94)⟩, ⟨(up_ne (by decide) m19_95), (up_ne (by decide) m19_96)⟩, ⟨(up_ne (by decide) m19_97), (up_ne (by decide) m19_98), (up_ne (by decide) m19_99), (up_ne (by decide) m19_100), (up_ne (by decide) m19_101)⟩, ⟨(up_ne (by decide) m19_102), (up_ne (by decide) m19_103), (up_ne (by decide) m19_104)⟩⟩, fun q hq => (up_ne (by omega) ((hP19.2 q hq).trans rfl))⟩⟩)
  · skip
    refine g_ldc (pc := 12) hX (z := -1000001) (List.mem_of_getElem? (i := 2) rfl) (by decide +kernel) dX7_load_12 ?_
    refine g_iret (pc := 14) hX hR dX7_load_14 ?_
    try simp only [decide_eq_true_eq, decide_eq_false_iff_not] at c_9
    exact (if_neg (by omega)).mpr (⟨rfl, rfl⟩)

set_option maxHeartbeats 4000000 in
set_option maxRecDepth 100000 in
theorem c_X7_zero {w : gW} {l : Launch} {S : Nat → va_E} {pm tm xm at_ wm wh : Int} {ir : Bool} {V PV TY TX MK MM CH AM WT WK FL PI : Int → Int} (hN : gw_N w = 105) (hm : modelAt w pm tm xm at_ wm wh ir V PV TY TX MK MM CH AM WT WK FL PI S) (hv : mOK V) (hpm : 0 ≤ pm ∧ pm ≤ 4) :
    GM1 w l yX7_zero wsX7_zero { frames := 2, cells := 0, slots := 0, locals := 45 } [.ref (gw_ad w 92)] S
      (fun v S' => if steV V = true ∧ neaV V = true then v = vI (V 10) ∧ POSTM w S (actN pm) tm xm at_ wm wh ir (updZ (updZ V 10 (rawV V)) 11 0) (actP pm PV V) TY TX MK MM CH AM WT WK FL PI S' else v = vI (-1000002) ∧ S' = S) := by
  refine GM.start (own := RX7) (n := "zero") (d := "()I") (by decide) rfl (Nat.le_of_ble_eq_true rfl) ?_
  intro X hX hR hXl
  subst hXl
  refine g_at rfl (lv2 := [(0, .ref (gw_ad w 92))]) rfl rfl rfl ?_
  obtain ⟨⟨m92, m93, m94⟩, ⟨m95, m96⟩, ⟨m97, m98, m99, m100, m101⟩, ⟨m102, m103, m104⟩⟩ := (id hm)
  have hr := hv.r
  have hrm := rawV_m hr
  have hrb := rawV_b hr
  obtain ⟨⟨⟨⟨f0a, f0b⟩, ⟨f1a, f1b⟩, ⟨f2a, f2b⟩, ⟨f3a, f3b⟩⟩, ⟨⟨f4a, f4b⟩, ⟨f5a, f5b⟩, ⟨f6a, f6b⟩, ⟨f7a, f7b⟩⟩⟩, ⟨⟨a8a, a8b⟩, ⟨a9a, a9b⟩, ⟨a10a, a10b⟩, ⟨a11a, a11b⟩, ⟨a12a, a12b⟩, ⟨a13a, a13b⟩⟩, ⟨⟨a14a, a14b⟩, ⟨a15a, a15b⟩, ⟨a16a, a16b⟩, ⟨a17a, a17b⟩⟩⟩ := id hv
  have hdv : (V 3).tdiv 20 = V 3 / 20 := fdiv_a (by omega)
  have hza : 0 ≤ zabs (rawV V - V 10) ∧ zabs (rawV V - V 10) ≤ 9000000 := by unfold zabs; split <;> omega
  refine g_aload_n (pc := 0) hX 0 rfl dX7_zero_0 ?_
  refine g_callV1 (pc := 1) (ci := 7) (As := []) (st2 := []) hX 92 (by omega) m92 rfl (c_X7_isSteady hN hm hv) gX7_zero_X7_isSteady (n := 0) (hw := rfl) (hrc := rfl) (hrs := rfl) (hd := by decide +kernel) (hR := ⟨Nat.le_of_ble_eq_true rfl, Nat.le_of_ble_eq_true rfl⟩) (hn := rfl) (hst := rfl) (hsum := Nat.le_of_ble_eq_true rfl) (hdg := dX7_zero_1) ?_
  rintro _ S9 ⟨rfl, e9⟩
  rw [e9]
  clear e9 S9
  refine g_at (pc2 := 4) rfl rfl (st2 := [vI (bz (steV V))]) rfl (S2 := S) rfl ?_
  refine g_bif_eq (pc := 4) (tgt := 36) hX dX7_zero_4 (by decide) (fun c_4 => ?_) (fun c_4 => ?_)
  · skip
    refine g_ldc (pc := 36) hX (z := -1000002) (List.mem_of_getElem? (i := 3) rfl) (by decide +kernel) dX7_zero_36 ?_
    refine g_iret (pc := 38) hX hR dX7_zero_38 ?_
    try simp only [decide_eq_true_eq, decide_eq_false_iff_not] at c_4
    exact (if_neg (fun z => absurd z.1 (by rw [c_4]; decide))).mpr (⟨rfl, rfl⟩)
  · skip
    refine g_aload_n (pc := 7) hX 0 rfl dX7_zero_7 ?_
    refine g_callV1 (pc := 8) (ci := 7) (As := []) (st2 := []) hX 92 (by omega) m92 rfl (c_X7_raw hN hm hr) gX7_zero_X7_raw (n := 0) (hw := rfl) (hrc := rfl) (hrs := rfl) (hd := by decide +kernel) (hR := ⟨Nat.le_of_ble_eq_true rfl, Nat.le_of_ble_eq_true rfl⟩) (hn := rfl) (hst := rfl) (hsum := Nat.le_of_ble_eq_true rfl) (hdg := dX7_zero_8) ?_
    rintro _ S9 ⟨rfl, e9⟩
    rw [e9]
    clear e9 S9
    refine g_at (pc2 := 11) rfl rfl (st2 := [vL (rawV V)]) rfl (S2 := S) rfl ?_
    refine g_aload_n (pc := 11) hX 0 rfl dX7_zero_11 ?_
    refine g_get (pc := 12) hX (ci := 7) (fun _ h => List.mem_cons_of_mem _ (List.mem_append_right _ h)) rfl 92 (by omega) m92 0 (by decide) (List.mem_of_getElem? (i := 1) rfl) rfl (v := .ref (gw_ad w 93)) rfl dX7_zero_12 ?_
    refine g_bipush (pc := 15) hX (by decide) dX7_zero_15 ?_
    refine g_lald (pc := 17) hX 93 (by omega) m93 (by omega) (by omega) (by decide) dX7_zero_17 ?_
    refine g_lsub (pc := 18) hX dX7_zero_18 ?_
    refine g_callT1 (pc := 19) (As := [vL ((rawV V) - (V 10))]) (st2 := []) hX (c_X7_size (x := (rawV V) - (V 10)) (by first | assumption | exact inI_L (by assumption) | exact inL_mk (by omega) (by omega))) gX7_zero_X7_size (n := 1) (hw := rfl) (hrc := rfl) (hrs := rfl) (hd := by decide +kernel) (hR := ⟨Nat.le_of_ble_eq_true rfl, Nat.le_of_ble_eq_true rfl⟩) (hn := rfl) (hst := rfl) (hsum := Nat.le_of_ble_eq_true rfl) (hdg := dX7_zero_19) ?_
    rintro _ S9 ⟨rfl, e9⟩
    rw [e9]
    clear e9 S9
    refine g_at (pc2 := 22) rfl rfl (st2 := [vL (zabs ((rawV V) - (V 10)))]) rfl (S2 := S) rfl ?_
    refine g_aload_n (pc := 22) hX 0 rfl dX7_zero_22 ?_
    refine g_get (pc := 23) hX (ci := 7) (fun _ h => List.mem_cons_of_mem _ (List.mem_append_right _ h)) rfl 92 (by omega) m92 0 (by decide) (List.mem_of_getElem? (i := 1) rfl) rfl (v := .ref (gw_ad w 93)) rfl dX7_zero_23 ?_
    refine g_iconst (pc := 26) hX dX7_zero_26 ?_
    refine g_lald (pc := 27) hX 93 (by omega) m93 (by omega) (by omega) (by decide) dX7_zero_27 ?_
    refine g_ldc2 (pc := 28) hX (z := 20) (List.mem_of_getElem? (i := 2) rfl) (by decide +kernel) dX7_zero_28 ?_
    refine g_ldiv (pc := 31) hX (by first | assumption | exact inI_L (by assumption) | exact inL_mk (by omega) (by omega)) (by first | assumption | exact inI_L (by assumption) | exact inL_mk (by omega) (by omega)) (by omega) dX7_zero_31 ?_
    refine g_lcmp_le (pc := 32) (tgt := 39) hX (by first | assumption | exact inI_L (by assumption) | exact inL_mk (by omega) (by omega)) (by first | assumption | exact inI_L (by assumption) | exact inL_mk (by omega) (by omega)) dX7_zero_32 dX7_zero_33 (by decide) (fun c_32 => ?_) (fun c_32 => ?_)
    · skip
      refine g_aload_n (pc := 39) hX 0 rfl dX7_zero_39 ?_
      refine g_bipush (pc := 40) hX (by decide) dX7_zero_40 ?_
      refine g_aload_n (pc := 42) hX 0 rfl dX7_zero_42 ?_
      refine g_callV1 (pc := 43) (ci := 7) (As := []) (st2 := [vI (10), .ref (gw_ad w 92)]) hX 92 (by omega) m92 rfl (c_X7_raw hN hm hr) gX7_zero_X7_raw (n := 0) (hw := rfl) (hrc := rfl) (hrs := rfl) (hd := by decide +kernel) (hR := ⟨Nat.le_of_ble_eq_true rfl, Nat.le_of_ble_eq_true rfl⟩) (hn := rfl) (hst := rfl) (hsum := Nat.le_of_ble_eq_true rfl) (hdg := dX7_zero_43) ?_
      rintro _ S9 ⟨rfl, e9⟩
      rw [e9]
      clear e9 S9
      refine g_at (pc2 := 46) rfl rfl (st2 := [vL (rawV V), vI (10), .ref (gw_ad w 92)]) rfl (S2 := S) rfl ?_
      refine g_l2i (pc := 46) hX dX7_zero_46 ?_
      refine g_callV1 (pc := 47) (ci := 7) (As := [vI (10), vI (rawV V)]) (st2 := []) hX 92 (by omega) m92 rfl (c_X7_sets hN hm (i := 10) (x := rawV V) hpm (by omega) (by omega) (by first | assumption | exact inI_mk (by omega) (by omega))) gX7_zero_X7_sets (n := 2) (hw := rfl) (hrc := rfl) (hrs := rfl) (hd := by decide +kernel) (hR := ⟨Nat.le_of_ble_eq_true rfl, Nat.le_of_ble_eq_true rfl⟩) (hn := rfl) (hst := rfl) (hsum := Nat.le_of_ble_eq_true rfl) (hdg := dX7_zero_47) ?_
      rintro _ S47 ⟨rfl, hP47⟩
      obtain ⟨⟨m47_92, m47_93, m47_94⟩, ⟨m47_95, m47_96⟩, ⟨m47_97, m47_98, m47_99, m47_100, m47_101⟩, ⟨m47_102, m47_103, m47_104⟩⟩ := hP47.1
      refine g_at (pc2 := 50) rfl rfl (st2 := [vI (V 10)]) rfl (S2 := S47) rfl ?_
      refine g_istore_n (pc := 50) hX (lv2 := [(1, vI (V 10)), (0, .ref (gw_ad w 92))]) rfl (by decide) rfl dX7_zero_50 ?_
      refine g_aload_n (pc := 51) hX 1 rfl dX7_zero_51 ?_
      refine g_get (pc := 52) hX (ci := 7) (fun _ h => List.mem_cons_of_mem _ (List.mem_append_right _ h)) rfl 92 (by omega) m47_92 0 (by decide) (List.mem_of_getElem? (i := 1) rfl) rfl (v := .ref (gw_ad w 93)) rfl dX7_zero_52 ?_
      refine g_bipush (pc := 55) hX (by decide) dX7_zero_55 ?_
      refine g_lconst (pc := 57) hX (z := 0) rfl dX7_zero_57 ?_
      refine g_last (pc := 58) hX 93 (by omega) m47_93 (by omega) (by omega) (by decide) dX7_zero_58 ?_
      refine g_at rfl rfl rfl (S2 := (va_up S47 93 (AJ w 1200 (updZ (updZ V 10 (rawV V)) (11) (0))))) rfl ?_
      refine g_iload_n (pc := 59) hX 0 rfl dX7_zero_59 ?_
      refine g_iret (pc := 60) hX hR dX7_zero_60 ?_
      try simp only [decide_eq_true_eq, decide_eq_false_iff_not] at c_4 c_32
      exact (if_pos (⟨c_4, dt (by rw [← hdv]; omega)⟩)).mpr (⟨rfl, ⟨⟨⟨(up_ne (by decide) m47_92), (up_eq _ _ _), (up_ne (by decide) m47_94)⟩, ⟨(up_ne (by decide) m47_95), (up_ne (by decide) m47_96)⟩, ⟨(up_ne (by decide) m47_97), (up_ne (by decide) m47_98), (up_ne (by decide) m47_99), (up_ne (by decide) m47_100), (up_ne (by decide) m47_101)⟩, ⟨(up_ne (by decide) m47_102), (up_ne (by decide) m47_103), (up_ne (by decide) m47_104)⟩⟩, fun q hq => (up_ne (by omega) ((hP47.2 q hq).trans rfl))⟩⟩)
    · skip
      refine g_ldc (pc := 36) hX (z := -1000002) (List.mem_of_getElem? (i := 3) rfl) (by decide +kernel) dX7_zero_36 ?_
      refine g_iret (pc := 38) hX hR dX7_zero_38 ?_
      try simp only [decide_eq_true_eq, decide_eq_false_iff_not] at c_4 c_32
      exact (if_neg (fun z => absurd (of_decide_eq_true z.2) (by rw [← hdv]; omega))).mpr (⟨rfl, rfl⟩)

set_option maxHeartbeats 4000000 in
set_option maxRecDepth 100000 in
theorem c_X7_tare {w : gW} {l : Launch} {S : Nat → va_E} {pm tm xm at_ wm wh : Int} {ir : Bool} {V PV TY TX MK MM CH AM WT WK FL PI : Int → Int} (hN : gw_N w = 105) (hm : modelAt w pm tm xm at_ wm wh ir V PV TY TX MK MM CH AM WT WK FL PI S) (hv : mOK V) (hpm : 0 ≤ pm ∧ pm ≤ 4) :
    GM1 w l yX7_tare wsX7_tare { frames := 3, cells := 0, slots := 0, locals := 65 } [.ref (gw_ad w 92)] S
      (fun v S' => if steV V = true ∧ ovrV V = false ∧ 0 ≤ groV V then v = vI (groV V) ∧ POSTM w S (actN pm) tm xm at_ wm wh ir (updZ V 11 (groV V)) (actP pm PV V) TY TX MK MM CH AM WT WK FL PI S' else v = vI (-1000002) ∧ S' = S) := by
  refine GM.start (own := RX7) (n := "tare") (d := "()I") (by decide) rfl (Nat.le_of_ble_eq_true rfl) ?_
  intro X hX hR hXl
  subst hXl
  refine g_at rfl (lv2 := [(0, .ref (gw_ad w 92))]) rfl rfl rfl ?_
  obtain ⟨⟨m92, m93, m94⟩, ⟨m95, m96⟩, ⟨m97, m98, m99, m100, m101⟩, ⟨m102, m103, m104⟩⟩ := (id hm)
  have hr := hv.r
  have hrm := rawV_m hr
  have hrb := rawV_b hr
  obtain ⟨⟨⟨⟨f0a, f0b⟩, ⟨f1a, f1b⟩, ⟨f2a, f2b⟩, ⟨f3a, f3b⟩⟩, ⟨⟨f4a, f4b⟩, ⟨f5a, f5b⟩, ⟨f6a, f6b⟩, ⟨f7a, f7b⟩⟩⟩, ⟨⟨a8a, a8b⟩, ⟨a9a, a9b⟩, ⟨a10a, a10b⟩, ⟨a11a, a11b⟩, ⟨a12a, a12b⟩, ⟨a13a, a13b⟩⟩, ⟨⟨a14a, a14b⟩, ⟨a15a, a15b⟩, ⟨a16a, a16b⟩, ⟨a17a, a17b⟩⟩⟩ := id hv
  have hgb := groV_b hv
  refine g_aload_n (pc := 0) hX 0 rfl dX7_tare_0 ?_
  refine g_callV1 (pc := 1) (ci := 7) (As := []) (st2 := []) hX 92 (by omega) m92 rfl (c_X7_isSteady hN hm hv) gX7_tare_X7_isSteady (n := 0) (hw := rfl) (hrc := rfl) (hrs := rfl) (hd := by decide +kernel) (hR := ⟨Nat.le_of_ble_eq_true rfl, Nat.le_of_ble_eq_true rfl⟩) (hn := rfl) (hst := rfl) (hsum := Nat.le_of_ble_eq_true rfl) (hdg := dX7_tare_1) ?_
  rintro _ S9 ⟨rfl, e9⟩
  rw [e9]
  clear e9 S9
  refine g_at (pc2 := 4) rfl rfl (st2 := [vI (bz (steV V))]) rfl (S2 := S) rfl ?_
  refine g_bif_eq (pc := 4) (tgt := 23) hX dX7_tare_4 (by decide) (fun c_4 => ?_) (fun c_4 => ?_)
  · skip
    refine g_ldc (pc := 23) hX (z := -1000002) (List.mem_of_getElem? (i := 1) rfl) (by decide +kernel) dX7_tare_23 ?_
    refine g_iret (pc := 25) hX hR dX7_tare_25 ?_
    try simp only [decide_eq_true_eq, decide_eq_false_iff_not] at c_4
    exact (if_neg (fun z => absurd z.1 (by rw [c_4]; decide))).mpr (⟨rfl, rfl⟩)
  · skip
    refine g_aload_n (pc := 7) hX 0 rfl dX7_tare_7 ?_
    refine g_callV1 (pc := 8) (ci := 7) (As := []) (st2 := []) hX 92 (by omega) m92 rfl (c_X7_isOver hN hm hv) gX7_tare_X7_isOver (n := 0) (hw := rfl) (hrc := rfl) (hrs := rfl) (hd := by decide +kernel) (hR := ⟨Nat.le_of_ble_eq_true rfl, Nat.le_of_ble_eq_true rfl⟩) (hn := rfl) (hst := rfl) (hsum := Nat.le_of_ble_eq_true rfl) (hdg := dX7_tare_8) ?_
    rintro _ S9 ⟨rfl, e9⟩
    rw [e9]
    clear e9 S9
    refine g_at (pc2 := 11) rfl rfl (st2 := [vI (bz (ovrV V))]) rfl (S2 := S) rfl ?_
    refine g_bif_ne (pc := 11) (tgt := 23) hX dX7_tare_11 (by decide) (fun c_11 => ?_) (fun c_11 => ?_)
    · skip
      refine g_ldc (pc := 23) hX (z := -1000002) (List.mem_of_getElem? (i := 1) rfl) (by decide +kernel) dX7_tare_23 ?_
      refine g_iret (pc := 25) hX hR dX7_tare_25 ?_
      try simp only [decide_eq_true_eq, decide_eq_false_iff_not] at c_4 c_11
      exact (if_neg (fun z => absurd z.2.1 (by rw [c_11]; decide))).mpr (⟨rfl, rfl⟩)
    · skip
      refine g_aload_n (pc := 14) hX 0 rfl dX7_tare_14 ?_
      refine g_callV1 (pc := 15) (ci := 7) (As := []) (st2 := []) hX 92 (by omega) m92 rfl (c_X7_gross hN hm hv) gX7_tare_X7_gross (n := 0) (hw := rfl) (hrc := rfl) (hrs := rfl) (hd := by decide +kernel) (hR := ⟨Nat.le_of_ble_eq_true rfl, Nat.le_of_ble_eq_true rfl⟩) (hn := rfl) (hst := rfl) (hsum := Nat.le_of_ble_eq_true rfl) (hdg := dX7_tare_15) ?_
      rintro _ S9 ⟨rfl, e9⟩
      rw [e9]
      clear e9 S9
      refine g_at (pc2 := 18) rfl rfl (st2 := [vL (groV V)]) rfl (S2 := S) rfl ?_
      refine g_lconst (pc := 18) hX (z := 0) rfl dX7_tare_18 ?_
      refine g_lcmp_ge (pc := 19) (tgt := 26) hX (by first | assumption | exact inI_L (by assumption) | exact inL_mk (by omega) (by omega)) (by first | assumption | exact inI_L (by assumption) | exact inL_mk (by omega) (by omega)) dX7_tare_19 dX7_tare_20 (by decide) (fun c_19 => ?_) (fun c_19 => ?_)
      · skip
        refine g_aload_n (pc := 26) hX 0 rfl dX7_tare_26 ?_
        refine g_callV0 (pc := 27) (ci := 7) (As := []) (st2 := []) hX 92 (by omega) m92 rfl (c_X7_act hN hm hpm) gX7_tare_X7_act (n := 0) (hw := rfl) (hrc := rfl) (hrs := rfl) (hd := by decide +kernel) (hR := ⟨Nat.le_of_ble_eq_true rfl, Nat.le_of_ble_eq_true rfl⟩) (hn := rfl) (hst := rfl) (hsum := Nat.le_of_ble_eq_true rfl) (hdg := dX7_tare_27) ?_
        rintro S27 hP27
        obtain ⟨⟨m27_92, m27_93, m27_94⟩, ⟨m27_95, m27_96⟩, ⟨m27_97, m27_98, m27_99, m27_100, m27_101⟩, ⟨m27_102, m27_103, m27_104⟩⟩ := hP27.1
        refine g_at (pc2 := 30) rfl rfl (st2 := []) rfl (S2 := S27) rfl ?_
        refine g_aload_n (pc := 30) hX 0 rfl dX7_tare_30 ?_
        refine g_get (pc := 31) hX (ci := 7) (fun _ h => List.mem_cons_of_mem _ (List.mem_append_right _ h)) rfl 92 (by omega) m27_92 0 (by decide) (List.mem_of_getElem? (i := 2) rfl) rfl (v := .ref (gw_ad w 93)) rfl dX7_tare_31 ?_
        refine g_bipush (pc := 34) hX (by decide) dX7_tare_34 ?_
        refine g_aload_n (pc := 36) hX 0 rfl dX7_tare_36 ?_
        refine g_callV1 (pc := 37) (ci := 7) (As := []) (st2 := [vI (11), .ref (gw_ad w 93)]) hX 92 (by omega) m27_92 rfl (c_X7_gross hN (show modelAt w (actN pm) tm xm at_ wm wh ir V (actP pm PV V) TY TX MK MM CH AM WT WK FL PI S27 from ⟨⟨m27_92, m27_93, m27_94⟩, ⟨m27_95, m27_96⟩, ⟨m27_97, m27_98, m27_99, m27_100, m27_101⟩, ⟨m27_102, m27_103, m27_104⟩⟩) hv) gX7_tare_X7_gross (n := 0) (hw := rfl) (hrc := rfl) (hrs := rfl) (hd := by decide +kernel) (hR := ⟨Nat.le_of_ble_eq_true rfl, Nat.le_of_ble_eq_true rfl⟩) (hn := rfl) (hst := rfl) (hsum := Nat.le_of_ble_eq_true rfl) (hdg := dX7_tare_37) ?_
        rintro _ S9 ⟨rfl, e9⟩
        rw [e9]
        clear e9 S9
        refine g_at (pc2 := 40) rfl rfl (st2 := [vL (groV V), vI (11), .ref (gw_ad w 93)]) rfl (S2 := S27) rfl ?_
        refine g_last (pc := 40) hX 93 (by omega) m27_93 (by omega) (by omega) (by decide) dX7_tare_40 ?_
        refine g_at rfl rfl rfl (S2 := (va_up S27 93 (AJ w 1200 (updZ (V) (11) (groV V))))) rfl ?_
        refine g_aload_n (pc := 41) hX 0 rfl dX7_tare_41 ?_
        refine g_get (pc := 42) hX (ci := 7) (fun _ h => List.mem_cons_of_mem _ (List.mem_append_right _ h)) rfl 92 (by omega) (up_ne (by decide) m27_92) 0 (by decide) (List.mem_of_getElem? (i := 2) rfl) rfl (v := .ref (gw_ad w 93)) rfl dX7_tare_42 ?_
        refine g_bipush (pc := 45) hX (by decide) dX7_tare_45 ?_
        refine g_lald (pc := 47) hX 93 (by omega) (up_eq _ _ _) (by omega) (by omega) (by decide) dX7_tare_47 ?_
        refine g_at rfl rfl (st2 := [vL (groV V)]) (by rw [show (updZ (V) (11) (groV V)) 11 = groV V from updZ_eq _ _ _]) rfl ?_
        refine g_l2i (pc := 48) hX dX7_tare_48 ?_
        refine g_iret (pc := 49) hX hR dX7_tare_49 ?_
        try simp only [decide_eq_true_eq, decide_eq_false_iff_not] at c_4 c_11 c_19
        exact (if_pos (⟨c_4, c_11, by omega⟩)).mpr (⟨rfl, ⟨⟨⟨(up_ne (by decide) m27_92), (up_eq _ _ _), (up_ne (by decide) m27_94)⟩, ⟨(up_ne (by decide) m27_95), (up_ne (by decide) m27_96)⟩, ⟨(up_ne (by decide) m27_97), (up_ne (by decide) m27_98), (up_ne (by decide) m27_99), (up_ne (by decide) m27_100), (up_ne (by decide) m27_101)⟩, ⟨(up_ne (by decide) m27_102), (up_ne (by decide) m27_103), (up_ne (by decide) m27_104)⟩⟩, fun q hq => (up_ne (by omega) ((hP27.2 q hq).trans rfl))⟩⟩)
      · skip
        refine g_ldc (pc := 23) hX (z := -1000002) (List.mem_of_getElem? (i := 1) rfl) (by decide +kernel) dX7_tare_23 ?_
        refine g_iret (pc := 25) hX hR dX7_tare_25 ?_
        try simp only [decide_eq_true_eq, decide_eq_false_iff_not] at c_4 c_11 c_19
        exact (if_neg (fun z => absurd z.2.2 (by omega))).mpr (⟨rfl, rfl⟩)

set_option maxHeartbeats 4000000 in
set_option maxRecDepth 100000 in
theorem c_X7_bands {w : gW} {l : Launch} {S : Nat → va_E} {pm tm xm at_ wm wh : Int} {ir : Bool} {V PV TY TX MK MM CH AM WT WK FL PI : Int → Int} (hN : gw_N w = 105) (hm : modelAt w pm tm xm at_ wm wh ir V PV TY TX MK MM CH AM WT WK FL PI S) {z : Int} (z0 : 0 ≤ z) (z4 : z < 4) :
    GM1 w l yX7_bands wsX7_bands { frames := 0, cells := 0, slots := 0, locals := 0 } [.ref (gw_ad w 92), vI (z)] S
      (fun v S' => v = vI (V (24 + 14 * z)) ∧ S' = S) := by
  refine GM.start (own := RX7) (n := "bands") (d := "(I)I") (by decide) rfl (Nat.le_of_ble_eq_true rfl) ?_
  intro X hX hR hXl
  subst hXl
  refine g_at rfl (lv2 := [(0, .ref (gw_ad w 92)), (1, vI (z))]) rfl rfl rfl ?_
  obtain ⟨⟨m92, m93, m94⟩, ⟨m95, m96⟩, ⟨m97, m98, m99, m100, m101⟩, ⟨m102, m103, m104⟩⟩ := (id hm)
  refine g_aload_n (pc := 0) hX 0 rfl dX7_bands_0 ?_
  refine g_get (pc := 1) hX (ci := 7) (fun _ h => List.mem_cons_of_mem _ (List.mem_append_right _ h)) rfl 92 (by omega) m92 0 (by decide) (List.mem_of_getElem? (i := 1) rfl) rfl (v := .ref (gw_ad w 93)) rfl dX7_bands_1 ?_
  refine g_bipush (pc := 4) hX (by decide) dX7_bands_4 ?_
  refine g_bipush (pc := 6) hX (by decide) dX7_bands_6 ?_
  refine g_iload_n (pc := 8) hX 1 rfl dX7_bands_8 ?_
  refine g_imul (pc := 9) hX dX7_bands_9 ?_
  refine g_iadd (pc := 10) hX dX7_bands_10 ?_
  refine g_lald (pc := 11) hX 93 (by omega) m93 (by omega) (by omega) (by decide) dX7_bands_11 ?_
  refine g_l2i (pc := 12) hX dX7_bands_12 ?_
  refine g_iret (pc := 13) hX hR dX7_bands_13 ?_
  exact ⟨rfl, rfl⟩

set_option maxHeartbeats 4000000 in
set_option maxRecDepth 100000 in
theorem c_X7_bandAt {w : gW} {l : Launch} {S : Nat → va_E} {pm tm xm at_ wm wh : Int} {ir : Bool} {V PV TY TX MK MM CH AM WT WK FL PI : Int → Int} (hN : gw_N w = 105) (hm : modelAt w pm tm xm at_ wm wh ir V PV TY TX MK MM CH AM WT WK FL PI S) (hB : vBnd V) (hL : vLim V) {z i x : Int} (hz : inI z) (hi : inI i) (hx : inI x) :
    GM1 w l yX7_bandAt wsX7_bandAt { frames := 2, cells := 0, slots := 0, locals := 45 } [.ref (gw_ad w 92), vI (z), vI (i), vI (x)] S
      (fun v S' => v = vI (if (0 ≤ z ∧ z ≤ 3) ∧ (0 ≤ i ∧ i ≤ V (24 + 14 * z) - 1) ∧ 0 ≤ x ∧ x ≤ 1 then V (24 + 14 * z + 2 + 2 * i + x) else -1000001) ∧ S' = S) := by
  refine GM.start (own := RX7) (n := "bandAt") (d := "(III)I") (by decide) rfl (Nat.le_of_ble_eq_true rfl) ?_
  intro X hX hR hXl
  subst hXl
  refine g_at rfl (lv2 := [(0, .ref (gw_ad w 92)), (1, vI (z)), (2, vI (i)), (3, vI (x))]) rfl rfl rfl ?_
  obtain ⟨⟨m92, m93, m94⟩, ⟨m95, m96⟩, ⟨m97, m98, m99, m100, m101⟩, ⟨m102, m103, m104⟩⟩ := (id hm)
  refine g_iload_n (pc := 0) hX 1 rfl dX7_bandAt_0 ?_
  refine g_callT1 (pc := 1) (As := [vI (z)]) (st2 := []) hX (c_X7_isZone (z := z) (by first | assumption | exact inI_mk (by omega) (by omega))) gX7_bandAt_X7_isZone (n := 1) (hw := rfl) (hrc := rfl) (hrs := rfl) (hd := by decide +kernel) (hR := ⟨Nat.le_of_ble_eq_true rfl, Nat.le_of_ble_eq_true rfl⟩) (hn := rfl) (hst := rfl) (hsum := Nat.le_of_ble_eq_true rfl) (hdg := dX7_bandAt_1) ?_
  rintro _ S9 ⟨rfl, e9⟩
  rw [e9]
  clear e9 S9
  refine g_at (pc2 := 4) rfl rfl (st2 := [vI (bz (decide (0 ≤ z ∧ z ≤ 3)))]) rfl (S2 := S) rfl ?_
  refine g_bif_eq (pc := 4) (tgt := 50) hX dX7_bandAt_4 (by decide) (fun c_4 => ?_) (fun c_4 => ?_)
  · skip
    refine g_ldc (pc := 50) hX (z := -1000001) (List.mem_of_getElem? (i := 2) rfl) (by decide +kernel) dX7_bandAt_50 ?_
    refine g_iret (pc := 52) hX hR dX7_bandAt_52 ?_
    try simp only [decide_eq_true_eq, decide_eq_false_iff_not] at c_4
    exact ⟨vI_c (if_neg (by omega)).symm, rfl⟩
  · skip
    have hz1 := of_decide_eq_true c_4
    have hBz := hB z (by omega) (by omega)
    refine g_iload_n (pc := 7) hX 2 rfl dX7_bandAt_7 ?_
    refine g_i2l (pc := 8) hX (by first | assumption | exact inI_mk (by omega) (by omega)) dX7_bandAt_8 ?_
    refine g_lconst (pc := 9) hX (z := 0) rfl dX7_bandAt_9 ?_
    refine g_aload_n (pc := 10) hX 0 rfl dX7_bandAt_10 ?_
    refine g_iload_n (pc := 11) hX 1 rfl dX7_bandAt_11 ?_
    refine g_callV1 (pc := 12) (ci := 7) (As := [vI (z)]) (st2 := [vL (0), vL (i)]) hX 92 (by omega) m92 rfl (c_X7_bands hN hm (z := z) (by omega) (by omega)) gX7_bandAt_X7_bands (n := 1) (hw := rfl) (hrc := rfl) (hrs := rfl) (hd := by decide +kernel) (hR := ⟨Nat.le_of_ble_eq_true rfl, Nat.le_of_ble_eq_true rfl⟩) (hn := rfl) (hst := rfl) (hsum := Nat.le_of_ble_eq_true rfl) (hdg := dX7_bandAt_12) ?_
    rintro _ S9 ⟨rfl, e9⟩
    rw [e9]
    clear e9 S9
    refine g_at (pc2 := 15) rfl rfl (st2 := [vI (V (24 + 14 * z)), vL (0), vL (i)]) rfl (S2 := S) rfl ?_
    refine g_iconst (pc := 15) hX dX7_bandAt_15 ?_
    refine g_isub (pc := 16) hX dX7_bandAt_16 ?_
    refine g_i2l (pc := 17) hX (by first | assumption | exact inI_mk (by omega) (by omega)) dX7_bandAt_17 ?_
    refine g_callT1 (pc := 18) (As := [vL (i), vL (0), vL ((V (24 + 14 * z)) - 1)]) (st2 := []) hX (c_X7_in (x := i) (a := 0) (b := (V (24 + 14 * z)) - 1) (by first | assumption | exact inI_L (by assumption) | exact inL_mk (by omega) (by omega)) (by first | assumption | exact inI_L (by assumption) | exact inL_mk (by omega) (by omega)) (by first | assumption | exact inI_L (by assumption) | exact inL_mk (by omega) (by omega))) gX7_bandAt_X7_in (n := 3) (hw := rfl) (hrc := rfl) (hrs := rfl) (hd := by decide +kernel) (hR := ⟨Nat.le_of_ble_eq_true rfl, Nat.le_of_ble_eq_true rfl⟩) (hn := rfl) (hst := rfl) (hsum := Nat.le_of_ble_eq_true rfl) (hdg := dX7_bandAt_18) ?_
    rintro _ S9 ⟨rfl, e9⟩
    rw [e9]
    clear e9 S9
    refine g_at (pc2 := 21) rfl rfl (st2 := [vI (bz (decide (0 ≤ i ∧ i ≤ (V (24 + 14 * z)) - 1)))]) rfl (S2 := S) rfl ?_
    refine g_bif_eq (pc := 21) (tgt := 50) hX dX7_bandAt_21 (by decide) (fun c_21 => ?_) (fun c_21 => ?_)
    · skip
      refine g_ldc (pc := 50) hX (z := -1000001) (List.mem_of_getElem? (i := 2) rfl) (by decide +kernel) dX7_bandAt_50 ?_
      refine g_iret (pc := 52) hX hR dX7_bandAt_52 ?_
      try simp only [decide_eq_true_eq, decide_eq_false_iff_not] at c_4 c_21
      exact ⟨vI_c (if_neg (by omega)).symm, rfl⟩
    · skip
      have hi1 := of_decide_eq_true c_21
      refine g_iload_n (pc := 24) hX 3 rfl dX7_bandAt_24 ?_
      refine g_i2l (pc := 25) hX (by first | assumption | exact inI_mk (by omega) (by omega)) dX7_bandAt_25 ?_
      refine g_lconst (pc := 26) hX (z := 0) rfl dX7_bandAt_26 ?_
      refine g_lconst (pc := 27) hX (z := 1) rfl dX7_bandAt_27 ?_
      refine g_callT1 (pc := 28) (As := [vL (x), vL (0), vL (1)]) (st2 := []) hX (c_X7_in (x := x) (a := 0) (b := 1) (by first | assumption | exact inI_L (by assumption) | exact inL_mk (by omega) (by omega)) (by first | assumption | exact inI_L (by assumption) | exact inL_mk (by omega) (by omega)) (by first | assumption | exact inI_L (by assumption) | exact inL_mk (by omega) (by omega))) gX7_bandAt_X7_in (n := 3) (hw := rfl) (hrc := rfl) (hrs := rfl) (hd := by decide +kernel) (hR := ⟨Nat.le_of_ble_eq_true rfl, Nat.le_of_ble_eq_true rfl⟩) (hn := rfl) (hst := rfl) (hsum := Nat.le_of_ble_eq_true rfl) (hdg := dX7_bandAt_28) ?_
      rintro _ S9 ⟨rfl, e9⟩
      rw [e9]
      clear e9 S9
      refine g_at (pc2 := 31) rfl rfl (st2 := [vI (bz (decide (0 ≤ x ∧ x ≤ 1)))]) rfl (S2 := S) rfl ?_
      refine g_bif_eq (pc := 31) (tgt := 50) hX dX7_bandAt_31 (by decide) (fun c_31 => ?_) (fun c_31 => ?_)
      · skip
        refine g_ldc (pc := 50) hX (z := -1000001) (List.mem_of_getElem? (i := 2) rfl) (by decide +kernel) dX7_bandAt_50 ?_
        refine g_iret (pc := 52) hX hR dX7_bandAt_52 ?_
        try simp only [decide_eq_true_eq, decide_eq_false_iff_not] at c_4 c_21 c_31
        exact ⟨vI_c (if_neg (by omega)).symm, rfl⟩
      · skip
        have hx1 := of_decide_eq_true c_31
        refine g_aload_n (pc := 34) hX 0 rfl dX7_bandAt_34 ?_
        refine g_get (pc := 35) hX (ci := 7) (fun _ h => List.mem_cons_of_mem _ (List.mem_append_right _ h)) rfl 92 (by omega) m92 0 (by decide) (List.mem_of_getElem? (i := 1) rfl) rfl (v := .ref (gw_ad w 93)) rfl dX7_bandAt_35 ?_
        refine g_iload_n (pc := 38) hX 1 rfl dX7_bandAt_38 ?_
        refine g_iload_n (pc := 39) hX 2 rfl dX7_bandAt_39 ?_
        refine g_callT1 (pc := 40) (As := [vI (z), vI (i)]) (st2 := [.ref (gw_ad w 93)]) hX (c_X7_placeOf (z := z) (k := i)) gX7_bandAt_X7_placeOf (n := 2) (hw := rfl) (hrc := rfl) (hrs := rfl) (hd := by decide +kernel) (hR := ⟨Nat.le_of_ble_eq_true rfl, Nat.le_of_ble_eq_true rfl⟩) (hn := rfl) (hst := rfl) (hsum := Nat.le_of_ble_eq_true rfl) (hdg := dX7_bandAt_40) ?_
        rintro _ S9 ⟨rfl, e9⟩
        rw [e9]
        clear e9 S9
        refine g_at (pc2 := 43) rfl rfl (st2 := [vI (24 + 14 * z + 2 + 2 * i), .ref (gw_ad w 93)]) rfl (S2 := S) rfl ?_
        refine g_iload_n (pc := 43) hX 3 rfl dX7_bandAt_43 ?_
        refine g_iadd (pc := 44) hX dX7_bandAt_44 ?_
        refine g_lald (pc := 45) hX 93 (by omega) m93 (by omega) (by omega) (by decide) dX7_bandAt_45 ?_
        refine g_l2i (pc := 46) hX dX7_bandAt_46 ?_
        refine g_goto (pc := 47) (tgt := 52) hX dX7_bandAt_47 (by decide) ?_
        refine g_iret (pc := 52) hX hR dX7_bandAt_52 ?_
        try simp only [decide_eq_true_eq, decide_eq_false_iff_not] at c_4 c_21 c_31
        exact ⟨vI_c (if_pos (by omega)).symm, rfl⟩

set_option maxHeartbeats 4000000 in
set_option maxRecDepth 100000 in
theorem c_X7_setExtra {w : gW} {l : Launch} {S : Nat → va_E} {pm tm xm at_ wm wh : Int} {ir : Bool} {V PV TY TX MK MM CH AM WT WK FL PI : Int → Int} (hN : gw_N w = 105) (hm : modelAt w pm tm xm at_ wm wh ir V PV TY TX MK MM CH AM WT WK FL PI S) (hpm : 0 ≤ pm ∧ pm ≤ 4) {z x : Int} (hz : inI z) (hx : inI x) :
    GM1 w l yX7_setExtra wsX7_setExtra { frames := 2, cells := 0, slots := 0, locals := 45 } [.ref (gw_ad w 92), vI (z), vI (x)] S
      (fun v S' => if (0 ≤ z ∧ z ≤ 3) ∧ 0 ≤ x ∧ x ≤ 10000 then v = vI (V (24 + 14 * z + 1)) ∧ POSTM w S (actN pm) tm xm at_ wm wh ir (updZ V (24 + 14 * z + 1) x) (actP pm PV V) TY TX MK MM CH AM WT WK FL PI S' else v = vI (-1000001) ∧ S' = S) := by
  refine GM.start (own := RX7) (n := "setExtra") (d := "(II)I") (by decide) rfl (Nat.le_of_ble_eq_true rfl) ?_
  intro X hX hR hXl
  subst hXl
  refine g_at rfl (lv2 := [(0, .ref (gw_ad w 92)), (1, vI (z)), (2, vI (x))]) rfl rfl rfl ?_
  obtain ⟨⟨m92, m93, m94⟩, ⟨m95, m96⟩, ⟨m97, m98, m99, m100, m101⟩, ⟨m102, m103, m104⟩⟩ := (id hm)
  refine g_iload_n (pc := 0) hX 1 rfl dX7_setExtra_0 ?_
  refine g_callT1 (pc := 1) (As := [vI (z)]) (st2 := []) hX (c_X7_isZone (z := z) (by first | assumption | exact inI_mk (by omega) (by omega))) gX7_setExtra_X7_isZone (n := 1) (hw := rfl) (hrc := rfl) (hrs := rfl) (hd := by decide +kernel) (hR := ⟨Nat.le_of_ble_eq_true rfl, Nat.le_of_ble_eq_true rfl⟩) (hn := rfl) (hst := rfl) (hsum := Nat.le_of_ble_eq_true rfl) (hdg := dX7_setExtra_1) ?_
  rintro _ S9 ⟨rfl, e9⟩
  rw [e9]
  clear e9 S9
  refine g_at (pc2 := 4) rfl rfl (st2 := [vI (bz (decide (0 ≤ z ∧ z ≤ 3)))]) rfl (S2 := S) rfl ?_
  refine g_bif_eq (pc := 4) (tgt := 36) hX dX7_setExtra_4 (by decide) (fun c_4 => ?_) (fun c_4 => ?_)
  · skip
    refine g_ldc (pc := 36) hX (z := -1000001) (List.mem_of_getElem? (i := 2) rfl) (by decide +kernel) dX7_setExtra_36 ?_
    refine g_iret (pc := 38) hX hR dX7_setExtra_38 ?_
    try simp only [decide_eq_true_eq, decide_eq_false_iff_not] at c_4
    exact (if_neg (by omega)).mpr (⟨rfl, rfl⟩)
  · skip
    refine g_iload_n (pc := 7) hX 2 rfl dX7_setExtra_7 ?_
    refine g_i2l (pc := 8) hX (by first | assumption | exact inI_mk (by omega) (by omega)) dX7_setExtra_8 ?_
    refine g_lconst (pc := 9) hX (z := 0) rfl dX7_setExtra_9 ?_
    refine g_ldc2 (pc := 10) hX (z := 10000) (List.mem_of_getElem? (i := 1) rfl) (by decide +kernel) dX7_setExtra_10 ?_
    refine g_callT1 (pc := 13) (As := [vL (x), vL (0), vL (10000)]) (st2 := []) hX (c_X7_in (x := x) (a := 0) (b := 10000) (by first | assumption | exact inI_L (by assumption) | exact inL_mk (by omega) (by omega)) (by first | assumption | exact inI_L (by assumption) | exact inL_mk (by omega) (by omega)) (by first | assumption | exact inI_L (by assumption) | exact inL_mk (by omega) (by omega))) gX7_setExtra_X7_in (n := 3) (hw := rfl) (hrc := rfl) (hrs := rfl) (hd := by decide +kernel) (hR := ⟨Nat.le_of_ble_eq_true rfl, Nat.le_of_ble_eq_true rfl⟩) (hn := rfl) (hst := rfl) (hsum := Nat.le_of_ble_eq_true rfl) (hdg := dX7_setExtra_13) ?_
    rintro _ S9 ⟨rfl, e9⟩
    rw [e9]
    clear e9 S9
    refine g_at (pc2 := 16) rfl rfl (st2 := [vI (bz (decide (0 ≤ x ∧ x ≤ 10000)))]) rfl (S2 := S) rfl ?_
    refine g_bif_eq (pc := 16) (tgt := 36) hX dX7_setExtra_16 (by decide) (fun c_16 => ?_) (fun c_16 => ?_)
    · skip
      refine g_ldc (pc := 36) hX (z := -1000001) (List.mem_of_getElem? (i := 2) rfl) (by decide +kernel) dX7_setExtra_36 ?_
      refine g_iret (pc := 38) hX hR dX7_setExtra_38 ?_
      try simp only [decide_eq_true_eq, decide_eq_false_iff_not] at c_4 c_16
      exact (if_neg (by omega)).mpr (⟨rfl, rfl⟩)
    · skip
      have hz1 := of_decide_eq_true c_4
      refine g_aload_n (pc := 19) hX 0 rfl dX7_setExtra_19 ?_
      refine g_bipush (pc := 20) hX (by decide) dX7_setExtra_20 ?_
      refine g_bipush (pc := 22) hX (by decide) dX7_setExtra_22 ?_
      refine g_iload_n (pc := 24) hX 1 rfl dX7_setExtra_24 ?_
      refine g_imul (pc := 25) hX dX7_setExtra_25 ?_
      refine g_iadd (pc := 26) hX dX7_setExtra_26 ?_
      refine g_iconst (pc := 27) hX dX7_setExtra_27 ?_
      refine g_iadd (pc := 28) hX dX7_setExtra_28 ?_
      refine g_iload_n (pc := 29) hX 2 rfl dX7_setExtra_29 ?_
      refine g_callV1 (pc := 30) (ci := 7) (As := [vI ((24 + (14 * z)) + 1), vI (x)]) (st2 := []) hX 92 (by omega) m92 rfl (c_X7_sets hN hm (i := (24 + (14 * z)) + 1) (x := x) hpm (by omega) (by omega) (by first | assumption | exact inI_mk (by omega) (by omega))) gX7_setExtra_X7_sets (n := 2) (hw := rfl) (hrc := rfl) (hrs := rfl) (hd := by decide +kernel) (hR := ⟨Nat.le_of_ble_eq_true rfl, Nat.le_of_ble_eq_true rfl⟩) (hn := rfl) (hst := rfl) (hsum := Nat.le_of_ble_eq_true rfl) (hdg := dX7_setExtra_30) ?_
      rintro _ S30 ⟨rfl, hP30⟩
      obtain ⟨⟨m30_92, m30_93, m30_94⟩, ⟨m30_95, m30_96⟩, ⟨m30_97, m30_98, m30_99, m30_100, m30_101⟩, ⟨m30_102, m30_103, m30_104⟩⟩ := hP30.1
      refine g_at (pc2 := 33) rfl rfl (st2 := [vI (V ((24 + (14 * z)) + 1))]) rfl (S2 := S30) rfl ?_
      refine g_goto (pc := 33) (tgt := 38) hX dX7_setExtra_33 (by decide) ?_
      refine g_iret (pc := 38) hX hR dX7_setExtra_38 ?_
      try simp only [decide_eq_true_eq, decide_eq_false_iff_not] at c_4 c_16
      exact (if_pos (by omega)).mpr (⟨rfl, ⟨⟨⟨m30_92, m30_93, m30_94⟩, ⟨m30_95, m30_96⟩, ⟨m30_97, m30_98, m30_99, m30_100, m30_101⟩, ⟨m30_102, m30_103, m30_104⟩⟩, fun q hq => ((hP30.2 q hq).trans rfl)⟩⟩)

set_option maxHeartbeats 4000000 in
set_option maxRecDepth 100000 in
theorem c_X7_type {w : gW} {l : Launch} {S : Nat → va_E} {pm tm xm at_ wm wh : Int} {ir : Bool} {V PV TY TX MK MM CH AM WT WK FL PI : Int → Int} (hN : gw_N w = 105) (hm : modelAt w pm tm xm at_ wm wh ir V PV TY TX MK MM CH AM WT WK FL PI S) (htm : 0 ≤ tm ∧ tm ≤ 60) {c : Int} (hc : inI c) :
    GM1 w l yX7_type wsX7_type { frames := 1, cells := 0, slots := 0, locals := 25 } [.ref (gw_ad w 92), vI (c)] S
      (fun v S' => if 32 ≤ c ∧ c ≤ 126 then (if tm = 60 then v = vI (-1000003) ∧ S' = S else v = vI (tm + 1) ∧ POSTM w S pm (tm + 1) xm at_ wm wh ir V PV (updZ TY tm c) TX MK MM CH AM WT WK FL PI S') else v = vI (-1000001) ∧ S' = S) := by
  refine GM.start (own := RX7) (n := "type") (d := "(I)I") (by decide) rfl (Nat.le_of_ble_eq_true rfl) ?_
  intro X hX hR hXl
  subst hXl
  refine g_at rfl (lv2 := [(0, .ref (gw_ad w 92)), (1, vI (c))]) rfl rfl rfl ?_
  obtain ⟨⟨m92, m93, m94⟩, ⟨m95, m96⟩, ⟨m97, m98, m99, m100, m101⟩, ⟨m102, m103, m104⟩⟩ := (id hm)
  refine g_iload_n (pc := 0) hX 1 rfl dX7_type_0 ?_
  refine g_i2l (pc := 1) hX (by first | assumption | exact inI_mk (by omega) (by omega)) dX7_type_1 ?_
  refine g_ldc2 (pc := 2) hX (z := 32) (List.mem_of_getElem? (i := 1) rfl) (by decide +kernel) dX7_type_2 ?_
  refine g_ldc2 (pc := 5) hX (z := 126) (List.mem_of_getElem? (i := 2) rfl) (by decide +kernel) dX7_type_5 ?_
  refine g_callT1 (pc := 8) (As := [vL (c), vL (32), vL (126)]) (st2 := []) hX (c_X7_in (x := c) (a := 32) (b := 126) (by first | assumption | exact inI_L (by assumption) | exact inL_mk (by omega) (by omega)) (by first | assumption | exact inI_L (by assumption) | exact inL_mk (by omega) (by omega)) (by first | assumption | exact inI_L (by assumption) | exact inL_mk (by omega) (by omega))) gX7_type_X7_in (n := 3) (hw := rfl) (hrc := rfl) (hrs := rfl) (hd := by decide +kernel) (hR := ⟨Nat.le_of_ble_eq_true rfl, Nat.le_of_ble_eq_true rfl⟩) (hn := rfl) (hst := rfl) (hsum := Nat.le_of_ble_eq_true rfl) (hdg := dX7_type_8) ?_
  rintro _ S9 ⟨rfl, e9⟩
  rw [e9]
  clear e9 S9
  refine g_at (pc2 := 11) rfl rfl (st2 := [vI (bz (decide (32 ≤ c ∧ c ≤ 126)))]) rfl (S2 := S) rfl ?_
  refine g_bif_ne (pc := 11) (tgt := 17) hX dX7_type_11 (by decide) (fun c_11 => ?_) (fun c_11 => ?_)
  · skip
    refine g_aload_n (pc := 17) hX 0 rfl dX7_type_17 ?_
    refine g_get (pc := 18) hX (ci := 7) (fun _ h => List.mem_cons_of_mem _ (List.mem_append_right _ h)) rfl 92 (by omega) m92 4 (by decide) (List.mem_of_getElem? (i := 4) rfl) rfl (v := vI (tm)) rfl dX7_type_18 ?_
    refine g_bipush (pc := 21) hX (by decide) dX7_type_21 ?_
    refine g_icmp_ne (pc := 23) (tgt := 29) hX (by first | assumption | exact inI_mk (by omega) (by omega)) (by first | assumption | exact inI_mk (by omega) (by omega)) dX7_type_23 (by decide) (fun c_23 => ?_) (fun c_23 => ?_)
    · skip
      refine g_aload_n (pc := 29) hX 0 rfl dX7_type_29 ?_
      refine g_get (pc := 30) hX (ci := 7) (fun _ h => List.mem_cons_of_mem _ (List.mem_append_right _ h)) rfl 92 (by omega) m92 3 (by decide) (List.mem_of_getElem? (i := 6) rfl) rfl (v := .ref (gw_ad w 95)) rfl dX7_type_30 ?_
      refine g_aload_n (pc := 33) hX 0 rfl dX7_type_33 ?_
      refine g_get (pc := 34) hX (ci := 7) (fun _ h => List.mem_cons_of_mem _ (List.mem_append_right _ h)) rfl 92 (by omega) m92 4 (by decide) (List.mem_of_getElem? (i := 4) rfl) rfl (v := vI (tm)) rfl dX7_type_34 ?_
      refine g_iload_n (pc := 37) hX 1 rfl dX7_type_37 ?_
      refine g_iast (pc := 38) hX 95 (by omega) m95 (by omega) (by omega) (by decide) dX7_type_38 ?_
      refine g_at rfl rfl rfl (S2 := (va_up S 95 (AI w 60 (updZ (TY) (tm) (c))))) rfl ?_
      refine g_aload_n (pc := 39) hX 0 rfl dX7_type_39 ?_
      refine g_dup (pc := 40) hX rfl dX7_type_40 ?_
      refine g_get (pc := 41) hX (ci := 7) (fun _ h => List.mem_cons_of_mem _ (List.mem_append_right _ h)) rfl 92 (by omega) (up_ne (by decide) m92) 4 (by decide) (List.mem_of_getElem? (i := 4) rfl) rfl (v := vI (tm)) rfl dX7_type_41 ?_
      refine g_iconst (pc := 44) hX dX7_type_44 ?_
      refine g_iadd (pc := 45) hX dX7_type_45 ?_
      refine g_put (pc := 46) hX (ci := 7) (fun _ h => List.mem_cons_of_mem _ (List.mem_append_right _ h)) rfl tyX7 tyX7_ok nmX7 92 (by omega) (up_ne (by decide) m92) 4 (by decide) (List.mem_of_getElem? (i := 4) rfl) rfl rfl (tyX7_ok 4 (by decide)) rfl (fit_int _) (Nat.le_of_ble_eq_true rfl) dX7_type_46 ?_
      refine g_at rfl rfl rfl (S2 := (va_up (va_up S 95 (AI w 60 (updZ (TY) (tm) (c)))) 92 (.inr (7, [.ref (gw_ad w 93), .ref (gw_ad w 94), vI (pm), .ref (gw_ad w 95), vI (tm + 1), .ref (gw_ad w 96), vI (xm), vI (at_), .ref (gw_ad w 97), .ref (gw_ad w 98), .ref (gw_ad w 99), .ref (gw_ad w 100), .ref (gw_ad w 101), vI (wm), vI (wh), vI (bz (ir)), .ref (gw_ad w 102), .ref (gw_ad w 103), .ref (gw_ad w 104)])))) rfl ?_
      refine g_aload_n (pc := 49) hX 0 rfl dX7_type_49 ?_
      refine g_get (pc := 50) hX (ci := 7) (fun _ h => List.mem_cons_of_mem _ (List.mem_append_right _ h)) rfl 92 (by omega) (up_eq _ _ _) 4 (by decide) (List.mem_of_getElem? (i := 4) rfl) rfl (v := vI (tm + 1)) rfl dX7_type_50 ?_
      refine g_iret (pc := 53) hX hR dX7_type_53 ?_
      try simp only [decide_eq_true_eq, decide_eq_false_iff_not] at c_11 c_23
      exact (if_pos (by omega)).mpr ((if_neg (by omega)).mpr (⟨rfl, ⟨⟨⟨(up_eq _ _ _), (up_ne (by decide) (up_ne (by decide) m93)), (up_ne (by decide) (up_ne (by decide) m94))⟩, ⟨(up_ne (by decide) (up_eq _ _ _)), (up_ne (by decide) (up_ne (by decide) m96))⟩, ⟨(up_ne (by decide) (up_ne (by decide) m97)), (up_ne (by decide) (up_ne (by decide) m98)), (up_ne (by decide) (up_ne (by decide) m99)), (up_ne (by decide) (up_ne (by decide) m100)), (up_ne (by decide) (up_ne (by decide) m101))⟩, ⟨(up_ne (by decide) (up_ne (by decide) m102)), (up_ne (by decide) (up_ne (by decide) m103)), (up_ne (by decide) (up_ne (by decide) m104))⟩⟩, fun q hq => (up_ne (by omega) (up_ne (by omega) rfl))⟩⟩))
    · skip
      refine g_ldc (pc := 26) hX (z := -1000003) (List.mem_of_getElem? (i := 5) rfl) (by decide +kernel) dX7_type_26 ?_
      refine g_iret (pc := 28) hX hR dX7_type_28 ?_
      try simp only [decide_eq_true_eq, decide_eq_false_iff_not] at c_11 c_23
      exact (if_pos (by omega)).mpr ((if_pos (by omega)).mpr (⟨rfl, rfl⟩))
  · skip
    refine g_ldc (pc := 14) hX (z := -1000001) (List.mem_of_getElem? (i := 3) rfl) (by decide +kernel) dX7_type_14 ?_
    refine g_iret (pc := 16) hX hR dX7_type_16 ?_
    try simp only [decide_eq_true_eq, decide_eq_false_iff_not] at c_11
    exact (if_neg (by omega)).mpr (⟨rfl, rfl⟩)

set_option maxHeartbeats 4000000 in
set_option maxRecDepth 100000 in
theorem c_X7_clear {w : gW} {l : Launch} {S : Nat → va_E} {pm tm xm at_ wm wh : Int} {ir : Bool} {V PV TY TX MK MM CH AM WT WK FL PI : Int → Int} (hN : gw_N w = 105) (hm : modelAt w pm tm xm at_ wm wh ir V PV TY TX MK MM CH AM WT WK FL PI S) :
    GM1 w l yX7_clear wsX7_clear { frames := 0, cells := 0, slots := 0, locals := 0 } [.ref (gw_ad w 92)] S
      (fun v S' => v = vI tm ∧ POSTM w S pm 0 xm at_ wm wh ir V PV TY TX MK MM CH AM WT WK FL PI S') := by
  refine GM.start (own := RX7) (n := "clear") (d := "()I") (by decide) rfl (Nat.le_of_ble_eq_true rfl) ?_
  intro X hX hR hXl
  subst hXl
  refine g_at rfl (lv2 := [(0, .ref (gw_ad w 92))]) rfl rfl rfl ?_
  obtain ⟨⟨m92, m93, m94⟩, ⟨m95, m96⟩, ⟨m97, m98, m99, m100, m101⟩, ⟨m102, m103, m104⟩⟩ := (id hm)
  refine g_aload_n (pc := 0) hX 0 rfl dX7_clear_0 ?_
  refine g_get (pc := 1) hX (ci := 7) (fun _ h => List.mem_cons_of_mem _ (List.mem_append_right _ h)) rfl 92 (by omega) m92 4 (by decide) (List.mem_of_getElem? (i := 1) rfl) rfl (v := vI (tm)) rfl dX7_clear_1 ?_
  refine g_istore_n (pc := 4) hX (lv2 := [(1, vI (tm)), (0, .ref (gw_ad w 92))]) rfl (by decide) rfl dX7_clear_4 ?_
  refine g_aload_n (pc := 5) hX 1 rfl dX7_clear_5 ?_
  refine g_iconst (pc := 6) hX dX7_clear_6 ?_
  refine g_put (pc := 7) hX (ci := 7) (fun _ h => List.mem_cons_of_mem _ (List.mem_append_right _ h)) rfl tyX7 tyX7_ok nmX7 92 (by omega) m92 4 (by decide) (List.mem_of_getElem? (i := 1) rfl) rfl rfl (tyX7_ok 4 (by decide)) rfl (fit_int _) (Nat.le_of_ble_eq_true rfl) dX7_clear_7 ?_
  refine g_at rfl rfl rfl (S2 := (va_up S 92 (.inr (7, [.ref (gw_ad w 93), .ref (gw_ad w 94), vI (pm), .ref (gw_ad w 95), vI (0), .ref (gw_ad w 96), vI (xm), vI (at_), .ref (gw_ad w 97), .ref (gw_ad w 98), .ref (gw_ad w 99), .ref (gw_ad w 100), .ref (gw_ad w 101), vI (wm), vI (wh), vI (bz (ir)), .ref (gw_ad w 102), .ref (gw_ad w 103), .ref (gw_ad w 104)])))) rfl ?_
  refine g_iload_n (pc := 10) hX 0 rfl dX7_clear_10 ?_
  refine g_iret (pc := 11) hX hR dX7_clear_11 ?_
  exact ⟨rfl, ⟨⟨⟨(up_eq _ _ _), (up_ne (by decide) m93), (up_ne (by decide) m94)⟩, ⟨(up_ne (by decide) m95), (up_ne (by decide) m96)⟩, ⟨(up_ne (by decide) m97), (up_ne (by decide) m98), (up_ne (by decide) m99), (up_ne (by decide) m100), (up_ne (by decide) m101)⟩, ⟨(up_ne (by decide) m102), (up_ne (by decide) m103), (up_ne (by decide) m104)⟩⟩, fun q hq => (up_ne (by omega) rfl)⟩⟩

set_option maxHeartbeats 4000000 in
set_option maxRecDepth 100000 in
theorem c_X7_rules {w : gW} {l : Launch} {S : Nat → va_E} {pm tm xm at_ wm wh : Int} {ir : Bool} {V PV TY TX MK MM CH AM WT WK FL PI : Int → Int} (hN : gw_N w = 105) (hm : modelAt w pm tm xm at_ wm wh ir V PV TY TX MK MM CH AM WT WK FL PI S) :
    GM1 w l yX7_rules wsX7_rules { frames := 0, cells := 0, slots := 0, locals := 0 } [.ref (gw_ad w 92)] S
      (fun v S' => v = vI (V 18) ∧ S' = S) := by
  refine GM.start (own := RX7) (n := "rules") (d := "()I") (by decide) rfl (Nat.le_of_ble_eq_true rfl) ?_
  intro X hX hR hXl
  subst hXl
  refine g_at rfl (lv2 := [(0, .ref (gw_ad w 92))]) rfl rfl rfl ?_
  obtain ⟨⟨m92, m93, m94⟩, ⟨m95, m96⟩, ⟨m97, m98, m99, m100, m101⟩, ⟨m102, m103, m104⟩⟩ := (id hm)
  refine g_aload_n (pc := 0) hX 0 rfl dX7_rules_0 ?_
  refine g_get (pc := 1) hX (ci := 7) (fun _ h => List.mem_cons_of_mem _ (List.mem_append_right _ h)) rfl 92 (by omega) m92 0 (by decide) (List.mem_of_getElem? (i := 1) rfl) rfl (v := .ref (gw_ad w 93)) rfl dX7_rules_1 ?_
  refine g_bipush (pc := 4) hX (by decide) dX7_rules_4 ?_
  refine g_lald (pc := 6) hX 93 (by omega) m93 (by omega) (by omega) (by decide) dX7_rules_6 ?_
  refine g_l2i (pc := 7) hX dX7_rules_7 ?_
  refine g_iret (pc := 8) hX hR dX7_rules_8 ?_
  exact ⟨rfl, rfl⟩

set_option maxHeartbeats 4000000 in
set_option maxRecDepth 100000 in
theorem c_X7_band {w : gW} {l : Launch} {S : Nat → va_E} {pm tm xm at_ wm wh : Int} {ir : Bool} {V PV TY TX MK MM CH AM WT WK FL PI : Int → Int} (hN : gw_N w = 105) (hm : modelAt w pm tm xm at_ wm wh ir V PV TY TX MK MM CH AM WT WK FL PI S) (hB : vBnd V) (hL : vLim V) (hpm : 0 ≤ pm ∧ pm ≤ 4) {z lm p : Int} (hz : inI z) (hl : inI lm) (hp : inI p) :
    GM1 w l yX7_band wsX7_band { frames := 2, cells := 0, slots := 0, locals := 45 } [.ref (gw_ad w 92), vI (z), vI (lm), vI (p)] S
      (fun v S' => if (0 ≤ z ∧ z ≤ 3) ∧ (1 ≤ lm ∧ lm ≤ 100000) ∧ 0 ≤ p ∧ p ≤ 100000 then (if mbx V z lm < V (24 + 14 * z) ∧ V (24 + 14 * z + 2 + 2 * mbx V z lm) = lm then v = vI (mbx V z lm) ∧ POSTM w S (actN pm) tm xm at_ wm wh ir (mbOld V z lm p) (actP pm PV V) TY TX MK MM CH AM WT WK FL PI S' else if V (24 + 14 * z) = 6 then v = vI (-1000003) ∧ S' = S else v = vI (mbx V z lm) ∧ POSTM w S (actN pm) tm xm at_ wm wh ir (mbNew V z lm p) (actP pm PV V) TY TX MK MM CH AM WT WK FL PI S') else v = vI (-1000001) ∧ S' = S) := by
  refine GM.start (own := RX7) (n := "band") (d := "(III)I") (by decide) rfl (Nat.le_of_ble_eq_true rfl) ?_
  intro X hX hR hXl
  subst hXl
  refine g_at rfl (lv2 := [(0, .ref (gw_ad w 92)), (1, vI (z)), (2, vI (lm)), (3, vI (p))]) rfl rfl rfl ?_
  obtain ⟨⟨m92, m93, m94⟩, ⟨m95, m96⟩, ⟨m97, m98, m99, m100, m101⟩, ⟨m102, m103, m104⟩⟩ := (id hm)
  refine g_iload_n (pc := 0) hX 1 rfl dX7_band_0 ?_
  refine g_callT1 (pc := 1) (As := [vI (z)]) (st2 := []) hX (c_X7_isZone (z := z) (by first | assumption | exact inI_mk (by omega) (by omega))) gX7_band_X7_isZone (n := 1) (hw := rfl) (hrc := rfl) (hrs := rfl) (hd := by decide +kernel) (hR := ⟨Nat.le_of_ble_eq_true rfl, Nat.le_of_ble_eq_true rfl⟩) (hn := rfl) (hst := rfl) (hsum := Nat.le_of_ble_eq_true rfl) (hdg := dX7_band_1) ?_
  rintro _ S9 ⟨rfl, e9⟩
  rw [e9]
  clear e9 S9
  refine g_at (pc2 := 4) rfl rfl (st2 := [vI (bz (decide (0 ≤ z ∧ z ≤ 3)))]) rfl (S2 := S) rfl ?_
  refine g_bif_eq (pc := 4) (tgt := 31) hX dX7_band_4 (by decide) (fun c_4 => ?_) (fun c_4 => ?_)
  · skip
    refine g_ldc (pc := 31) hX (z := -1000001) (List.mem_of_getElem? (i := 2) rfl) (by decide +kernel) dX7_band_31 ?_
    refine g_iret (pc := 33) hX hR dX7_band_33 ?_
    try simp only [decide_eq_true_eq, decide_eq_false_iff_not] at c_4
    exact (if_neg (by omega)).mpr (⟨rfl, rfl⟩)
  · skip
    have hz1 := of_decide_eq_true c_4
    have hBz := hB z (by omega) (by omega)
    refine g_iload_n (pc := 7) hX 2 rfl dX7_band_7 ?_
    refine g_i2l (pc := 8) hX (by first | assumption | exact inI_mk (by omega) (by omega)) dX7_band_8 ?_
    refine g_lconst (pc := 9) hX (z := 1) rfl dX7_band_9 ?_
    refine g_ldc2 (pc := 10) hX (z := 100000) (List.mem_of_getElem? (i := 1) rfl) (by decide +kernel) dX7_band_10 ?_
    refine g_callT1 (pc := 13) (As := [vL (lm), vL (1), vL (100000)]) (st2 := []) hX (c_X7_in (x := lm) (a := 1) (b := 100000) (by first | assumption | exact inI_L (by assumption) | exact inL_mk (by omega) (by omega)) (by first | assumption | exact inI_L (by assumption) | exact inL_mk (by omega) (by omega)) (by first | assumption | exact inI_L (by assumption) | exact inL_mk (by omega) (by omega))) gX7_band_X7_in (n := 3) (hw := rfl) (hrc := rfl) (hrs := rfl) (hd := by decide +kernel) (hR := ⟨Nat.le_of_ble_eq_true rfl, Nat.le_of_ble_eq_true rfl⟩) (hn := rfl) (hst := rfl) (hsum := Nat.le_of_ble_eq_true rfl) (hdg := dX7_band_13) ?_
    rintro _ S9 ⟨rfl, e9⟩
    rw [e9]
    clear e9 S9
    refine g_at (pc2 := 16) rfl rfl (st2 := [vI (bz (decide (1 ≤ lm ∧ lm ≤ 100000)))]) rfl (S2 := S) rfl ?_
    refine g_bif_eq (pc := 16) (tgt := 31) hX dX7_band_16 (by decide) (fun c_16 => ?_) (fun c_16 => ?_)
    · skip
      refine g_ldc (pc := 31) hX (z := -1000001) (List.mem_of_getElem? (i := 2) rfl) (by decide +kernel) dX7_band_31 ?_
      refine g_iret (pc := 33) hX hR dX7_band_33 ?_
      try simp only [decide_eq_true_eq, decide_eq_false_iff_not] at c_4 c_16
      exact (if_neg (by omega)).mpr (⟨rfl, rfl⟩)
    · skip
      have hl1 := of_decide_eq_true c_16
      refine g_iload_n (pc := 19) hX 3 rfl dX7_band_19 ?_
      refine g_i2l (pc := 20) hX (by first | assumption | exact inI_mk (by omega) (by omega)) dX7_band_20 ?_
      refine g_lconst (pc := 21) hX (z := 0) rfl dX7_band_21 ?_
      refine g_ldc2 (pc := 22) hX (z := 100000) (List.mem_of_getElem? (i := 1) rfl) (by decide +kernel) dX7_band_22 ?_
      refine g_callT1 (pc := 25) (As := [vL (p), vL (0), vL (100000)]) (st2 := []) hX (c_X7_in (x := p) (a := 0) (b := 100000) (by first | assumption | exact inI_L (by assumption) | exact inL_mk (by omega) (by omega)) (by first | assumption | exact inI_L (by assumption) | exact inL_mk (by omega) (by omega)) (by first | assumption | exact inI_L (by assumption) | exact inL_mk (by omega) (by omega))) gX7_band_X7_in (n := 3) (hw := rfl) (hrc := rfl) (hrs := rfl) (hd := by decide +kernel) (hR := ⟨Nat.le_of_ble_eq_true rfl, Nat.le_of_ble_eq_true rfl⟩) (hn := rfl) (hst := rfl) (hsum := Nat.le_of_ble_eq_true rfl) (hdg := dX7_band_25) ?_
      rintro _ S9 ⟨rfl, e9⟩
      rw [e9]
      clear e9 S9
      refine g_at (pc2 := 28) rfl rfl (st2 := [vI (bz (decide (0 ≤ p ∧ p ≤ 100000)))]) rfl (S2 := S) rfl ?_
      refine g_bif_ne (pc := 28) (tgt := 34) hX dX7_band_28 (by decide) (fun c_28 => ?_) (fun c_28 => ?_)
      · skip
        have hp1 := of_decide_eq_true c_28
        refine g_iconst (pc := 34) hX dX7_band_34 ?_
        refine g_istore (pc := 35) hX (lv2 := [(4, vI (0)), (0, .ref (gw_ad w 92)), (1, vI (z)), (2, vI (lm)), (3, vI (p))]) (by decide) rfl dX7_band_35 ?_
        have lk : ∀ (n0 : Nat) (k : Int), 0 ≤ k → k ≤ V (24 + 14 * z) → V (24 + 14 * z) - k < n0 → (bfor (fun i => V (24 + 14 * z + 2 + 2 * i)) lm (V (24 + 14 * z) - k).toNat k = mbx V z lm) → G w { frames := 2, cells := 0, slots := 0, locals := 45 } X 7 37 [(4, vI (k)), (0, .ref (gw_ad w 92)), (1, vI (z)), (2, vI (lm)), (3, vI (p))] [] S := by
          intro n0
          induction n0 with
          | zero => intro k  h1k h2k h3k; exact absurd h3k (by omega)
          | succ n0 ihlk =>
            intro k  h1k h2k h3k hb
            have hk : inI k := inI_mk (by omega) (by omega)
            have hLk := hL (24 + 14 * z + 2 + 2 * k)
            refine g_iload (pc := 37) hX 0 rfl dX7_band_37 ?_
            refine g_aload_n (pc := 39) hX 1 rfl dX7_band_39 ?_
            refine g_iload_n (pc := 40) hX 2 rfl dX7_band_40 ?_
            refine g_callV1 (pc := 41) (ci := 7) (As := [vI (z)]) (st2 := [vI (k)]) hX 92 (by omega) m92 rfl (c_X7_bands hN hm (z := z) (by omega) (by omega)) gX7_band_X7_bands (n := 1) (hw := rfl) (hrc := rfl) (hrs := rfl) (hd := by decide +kernel) (hR := ⟨Nat.le_of_ble_eq_true rfl, Nat.le_of_ble_eq_true rfl⟩) (hn := rfl) (hst := rfl) (hsum := Nat.le_of_ble_eq_true rfl) (hdg := dX7_band_41) ?_
            rintro _ S9 ⟨rfl, e9⟩
            rw [e9]
            clear e9 S9
            refine g_at (pc2 := 44) rfl rfl (st2 := [vI (V (24 + 14 * z)), vI (k)]) rfl (S2 := S) rfl ?_
            refine g_icmp_ge (pc := 44) (tgt := 70) hX (by first | assumption | exact inI_mk (by omega) (by omega)) (by first | assumption | exact inI_mk (by omega) (by omega)) dX7_band_44 (by decide) (fun c_44 => ?_) (fun c_44 => ?_)
            · skip
              rw [show (V (24 + 14 * z) - k).toNat = 0 by omega] at hb
              have hkk : k = mbx V z lm := hb
              refine g_iload (pc := 70) hX 0 rfl dX7_band_70 ?_
              refine g_aload_n (pc := 72) hX 1 rfl dX7_band_72 ?_
              refine g_iload_n (pc := 73) hX 2 rfl dX7_band_73 ?_
              refine g_callV1 (pc := 74) (ci := 7) (As := [vI (z)]) (st2 := [vI (k)]) hX 92 (by omega) m92 rfl (c_X7_bands hN hm (z := z) (by omega) (by omega)) gX7_band_X7_bands (n := 1) (hw := rfl) (hrc := rfl) (hrs := rfl) (hd := by decide +kernel) (hR := ⟨Nat.le_of_ble_eq_true rfl, Nat.le_of_ble_eq_true rfl⟩) (hn := rfl) (hst := rfl) (hsum := Nat.le_of_ble_eq_true rfl) (hdg := dX7_band_74) ?_
              rintro _ S9 ⟨rfl, e9⟩
              rw [e9]
              clear e9 S9
              refine g_at (pc2 := 77) rfl rfl (st2 := [vI (V (24 + 14 * z)), vI (k)]) rfl (S2 := S) rfl ?_
              refine g_icmp_ge (pc := 77) (tgt := 101) hX (by first | assumption | exact inI_mk (by omega) (by omega)) (by first | assumption | exact inI_mk (by omega) (by omega)) dX7_band_77 (by decide) (fun c_77 => ?_) (fun c_77 => ?_)
              · skip
                refine g_iconst (pc := 101) hX dX7_band_101 ?_
                refine g_istore (pc := 102) hX (lv2 := [(5, vI (0)), (4, vI (k)), (0, .ref (gw_ad w 92)), (1, vI (z)), (2, vI (lm)), (3, vI (p))]) (by decide) rfl dX7_band_102 ?_
                have hno : ¬ (mbx V z lm < V (24 + 14 * z) ∧ V (24 + 14 * z + 2 + 2 * mbx V z lm) = lm) := by rw [← hkk]; omega
                refine g_iload (pc := 104) hX 0 rfl dX7_band_104 ?_
                refine g_if_ne (pc := 106) (tgt := 122) hX (by first | assumption | exact inI_mk (by omega) (by omega)) dX7_band_106 (by decide) (fun c_106 => ?_) (fun c_106 => ?_)
                · skip
                  exact absurd c_106 (by omega)
                · skip
                  refine g_aload_n (pc := 109) hX 2 rfl dX7_band_109 ?_
                  refine g_iload_n (pc := 110) hX 3 rfl dX7_band_110 ?_
                  refine g_callV1 (pc := 111) (ci := 7) (As := [vI (z)]) (st2 := []) hX 92 (by omega) m92 rfl (c_X7_bands hN hm (z := z) (by omega) (by omega)) gX7_band_X7_bands (n := 1) (hw := rfl) (hrc := rfl) (hrs := rfl) (hd := by decide +kernel) (hR := ⟨Nat.le_of_ble_eq_true rfl, Nat.le_of_ble_eq_true rfl⟩) (hn := rfl) (hst := rfl) (hsum := Nat.le_of_ble_eq_true rfl) (hdg := dX7_band_111) ?_
                  rintro _ S9 ⟨rfl, e9⟩
                  rw [e9]
                  clear e9 S9
                  refine g_at (pc2 := 114) rfl rfl (st2 := [vI (V (24 + 14 * z))]) rfl (S2 := S) rfl ?_
                  refine g_bipush (pc := 114) hX (by decide) dX7_band_114 ?_
                  refine g_icmp_ne (pc := 116) (tgt := 122) hX (by first | assumption | exact inI_mk (by omega) (by omega)) (by first | assumption | exact inI_mk (by omega) (by omega)) dX7_band_116 (by decide) (fun c_116 => ?_) (fun c_116 => ?_)
                  · skip
                    refine g_aload_n (pc := 122) hX 2 rfl dX7_band_122 ?_
                    refine g_callV0 (pc := 123) (ci := 7) (As := []) (st2 := []) hX 92 (by omega) m92 rfl (c_X7_act hN hm hpm) gX7_band_X7_act (n := 0) (hw := rfl) (hrc := rfl) (hrs := rfl) (hd := by decide +kernel) (hR := ⟨Nat.le_of_ble_eq_true rfl, Nat.le_of_ble_eq_true rfl⟩) (hn := rfl) (hst := rfl) (hsum := Nat.le_of_ble_eq_true rfl) (hdg := dX7_band_123) ?_
                    rintro S123 hP123
                    obtain ⟨⟨m123_92, m123_93, m123_94⟩, ⟨m123_95, m123_96⟩, ⟨m123_97, m123_98, m123_99, m123_100, m123_101⟩, ⟨m123_102, m123_103, m123_104⟩⟩ := hP123.1
                    refine g_at (pc2 := 126) rfl rfl (st2 := []) rfl (S2 := S123) rfl ?_
                    refine g_iload (pc := 126) hX 0 rfl dX7_band_126 ?_
                    refine g_if_ne (pc := 128) (tgt := 219) hX (by first | assumption | exact inI_mk (by omega) (by omega)) dX7_band_128 (by decide) (fun c_128 => ?_) (fun c_128 => ?_)
                    · skip
                      exact absurd c_128 (by omega)
                    · skip
                      refine g_aload_n (pc := 131) hX 2 rfl dX7_band_131 ?_
                      refine g_iload_n (pc := 132) hX 3 rfl dX7_band_132 ?_
                      refine g_callV1 (pc := 133) (ci := 7) (As := [vI (z)]) (st2 := []) hX 92 (by omega) m123_92 rfl (c_X7_bands hN (show modelAt w (actN pm) tm xm at_ wm wh ir V (actP pm PV V) TY TX MK MM CH AM WT WK FL PI S123 from ⟨⟨m123_92, m123_93, m123_94⟩, ⟨m123_95, m123_96⟩, ⟨m123_97, m123_98, m123_99, m123_100, m123_101⟩, ⟨m123_102, m123_103, m123_104⟩⟩) (z := z) (by omega) (by omega)) gX7_band_X7_bands (n := 1) (hw := rfl) (hrc := rfl) (hrs := rfl) (hd := by decide +kernel) (hR := ⟨Nat.le_of_ble_eq_true rfl, Nat.le_of_ble_eq_true rfl⟩) (hn := rfl) (hst := rfl) (hsum := Nat.le_of_ble_eq_true rfl) (hdg := dX7_band_133) ?_
                      rintro _ S9 ⟨rfl, e9⟩
                      rw [e9]
                      clear e9 S9
                      refine g_at (pc2 := 136) rfl rfl (st2 := [vI (V (24 + 14 * z))]) rfl (S2 := S123) rfl ?_
                      refine g_istore (pc := 136) hX (lv2 := [(6, vI (V (24 + 14 * z))), (5, vI (0)), (4, vI (k)), (0, .ref (gw_ad w 92)), (1, vI (z)), (2, vI (lm)), (3, vI (p))]) (by decide) rfl dX7_band_136 ?_
                      have ls : ∀ (n0 : Nat) (c : Int), 0 ≤ c → c ≤ V (24 + 14 * z) - k → V (24 + 14 * z) - k - c < n0 → G w { frames := 2, cells := 0, slots := 0, locals := 45 } X 7 138 [(6, vI (V (24 + 14 * z) - c)), (0, .ref (gw_ad w 92)), (1, vI (z)), (2, vI (lm)), (3, vI (p)), (4, vI (k)), (5, vI (0))] [] (va_up S123 93 (AJ w 1200 (mop V z (V (24 + 14 * z)) c))) := by
                        intro n0
                        induction n0 with
                        | zero => intro c  h1c h2c h3c; exact absurd h3c (by omega)
                        | succ n0 ihls =>
                          intro c  h1c h2c h3c 
                          have hc : inI c := inI_mk (by omega) (by omega)
                          refine g_iload (pc := 138) hX 0 rfl dX7_band_138 ?_
                          refine g_iload (pc := 140) hX 5 rfl dX7_band_140 ?_
                          refine g_icmp_le (pc := 142) (tgt := 203) hX (by first | assumption | exact inI_mk (by omega) (by omega)) (by first | assumption | exact inI_mk (by omega) (by omega)) dX7_band_142 (by decide) (fun c_142 => ?_) (fun c_142 => ?_)
                          · skip
                            have hc2 : c = V (24 + 14 * z) - k := by omega
                            refine g_aload_n (pc := 203) hX 1 rfl dX7_band_203 ?_
                            refine g_get (pc := 204) hX (ci := 7) (fun _ h => List.mem_cons_of_mem _ (List.mem_append_right _ h)) rfl 92 (by omega) (up_ne (by decide) m123_92) 0 (by decide) (List.mem_of_getElem? (i := 3) rfl) rfl (v := .ref (gw_ad w 93)) rfl dX7_band_204 ?_
                            refine g_bipush (pc := 207) hX (by decide) dX7_band_207 ?_
                            refine g_bipush (pc := 209) hX (by decide) dX7_band_209 ?_
                            refine g_iload_n (pc := 211) hX 2 rfl dX7_band_211 ?_
                            refine g_imul (pc := 212) hX dX7_band_212 ?_
                            refine g_iadd (pc := 213) hX dX7_band_213 ?_
                            refine g_dup2 (pc := 214) hX rfl rfl dX7_band_214 ?_
                            refine g_lald (pc := 215) hX 93 (by omega) (up_eq _ _ _) (by omega) (by omega) (by decide) dX7_band_215 ?_
                            refine g_at rfl rfl (st2 := [vL (V (24 + 14 * z)), vI (24 + (14 * z)), .ref (gw_ad w 93)]) (by rw [show (mop V z (V (24 + 14 * z)) c) (24 + (14 * z)) = V (24 + 14 * z) from if_neg (by omega)]) rfl ?_
                            refine g_lconst (pc := 216) hX (z := 1) rfl dX7_band_216 ?_
                            refine g_ladd (pc := 217) hX dX7_band_217 ?_
                            refine g_last (pc := 218) hX 93 (by omega) (up_eq _ _ _) (by omega) (by omega) (by decide) dX7_band_218 ?_
                            refine g_at rfl rfl rfl (S2 := (va_up (va_up S123 93 (AJ w 1200 (mop V z (V (24 + 14 * z)) c))) 93 (AJ w 1200 (updZ (mop V z (V (24 + 14 * z)) c) (24 + (14 * z)) ((V (24 + 14 * z)) + 1))))) rfl ?_
                            refine g_aload_n (pc := 219) hX 1 rfl dX7_band_219 ?_
                            refine g_get (pc := 220) hX (ci := 7) (fun _ h => List.mem_cons_of_mem _ (List.mem_append_right _ h)) rfl 92 (by omega) (up_ne (by decide) (up_ne (by decide) m123_92)) 0 (by decide) (List.mem_of_getElem? (i := 3) rfl) rfl (v := .ref (gw_ad w 93)) rfl dX7_band_220 ?_
                            refine g_iload_n (pc := 223) hX 2 rfl dX7_band_223 ?_
                            refine g_iload (pc := 224) hX 5 rfl dX7_band_224 ?_
                            refine g_callT1 (pc := 226) (As := [vI (z), vI (k)]) (st2 := [.ref (gw_ad w 93)]) hX (c_X7_placeOf (z := z) (k := k)) gX7_band_X7_placeOf (n := 2) (hw := rfl) (hrc := rfl) (hrs := rfl) (hd := by decide +kernel) (hR := ⟨Nat.le_of_ble_eq_true rfl, Nat.le_of_ble_eq_true rfl⟩) (hn := rfl) (hst := rfl) (hsum := Nat.le_of_ble_eq_true rfl) (hdg := dX7_band_226) ?_
                            rintro _ S9 ⟨rfl, e9⟩
                            rw [e9]
                            clear e9 S9
                            refine g_at (pc2 := 229) rfl rfl (st2 := [vI (24 + 14 * z + 2 + 2 * k), .ref (gw_ad w 93)]) rfl (S2 := (va_up (va_up S123 93 (AJ w 1200 (mop V z (V (24 + 14 * z)) c))) 93 (AJ w 1200 (updZ (mop V z (V (24 + 14 * z)) c) (24 + (14 * z)) ((V (24 + 14 * z)) + 1))))) rfl ?_
                            refine g_iload_n (pc := 229) hX 3 rfl dX7_band_229 ?_
                            refine g_i2l (pc := 230) hX (by first | assumption | exact inI_mk (by omega) (by omega)) dX7_band_230 ?_
                            refine g_last (pc := 231) hX 93 (by omega) (up_eq _ _ _) (by omega) (by omega) (by decide) dX7_band_231 ?_
                            refine g_at rfl rfl rfl (S2 := (va_up (va_up (va_up S123 93 (AJ w 1200 (mop V z (V (24 + 14 * z)) c))) 93 (AJ w 1200 (updZ (mop V z (V (24 + 14 * z)) c) (24 + (14 * z)) ((V (24 + 14 * z)) + 1)))) 93 (AJ w 1200 (updZ (updZ (mop V z (V (24 + 14 * z)) c) (24 + (14 * z)) ((V (24 + 14 * z)) + 1)) (24 + 14 * z + 2 + 2 * k) (lm))))) rfl ?_
                            refine g_aload_n (pc := 232) hX 1 rfl dX7_band_232 ?_
                            refine g_get (pc := 233) hX (ci := 7) (fun _ h => List.mem_cons_of_mem _ (List.mem_append_right _ h)) rfl 92 (by omega) (up_ne (by decide) (up_ne (by decide) (up_ne (by decide) m123_92))) 0 (by decide) (List.mem_of_getElem? (i := 3) rfl) rfl (v := .ref (gw_ad w 93)) rfl dX7_band_233 ?_
                            refine g_iload_n (pc := 236) hX 2 rfl dX7_band_236 ?_
                            refine g_iload (pc := 237) hX 5 rfl dX7_band_237 ?_
                            refine g_callT1 (pc := 239) (As := [vI (z), vI (k)]) (st2 := [.ref (gw_ad w 93)]) hX (c_X7_placeOf (z := z) (k := k)) gX7_band_X7_placeOf (n := 2) (hw := rfl) (hrc := rfl) (hrs := rfl) (hd := by decide +kernel) (hR := ⟨Nat.le_of_ble_eq_true rfl, Nat.le_of_ble_eq_true rfl⟩) (hn := rfl) (hst := rfl) (hsum := Nat.le_of_ble_eq_true rfl) (hdg := dX7_band_239) ?_
                            rintro _ S9 ⟨rfl, e9⟩
                            rw [e9]
                            clear e9 S9
                            refine g_at (pc2 := 242) rfl rfl (st2 := [vI (24 + 14 * z + 2 + 2 * k), .ref (gw_ad w 93)]) rfl (S2 := (va_up (va_up (va_up S123 93 (AJ w 1200 (mop V z (V (24 + 14 * z)) c))) 93 (AJ w 1200 (updZ (mop V z (V (24 + 14 * z)) c) (24 + (14 * z)) ((V (24 + 14 * z)) + 1)))) 93 (AJ w 1200 (updZ (updZ (mop V z (V (24 + 14 * z)) c) (24 + (14 * z)) ((V (24 + 14 * z)) + 1)) (24 + 14 * z + 2 + 2 * k) (lm))))) rfl ?_
                            refine g_iconst (pc := 242) hX dX7_band_242 ?_
                            refine g_iadd (pc := 243) hX dX7_band_243 ?_
                            refine g_iload_n (pc := 244) hX 4 rfl dX7_band_244 ?_
                            refine g_i2l (pc := 245) hX (by first | assumption | exact inI_mk (by omega) (by omega)) dX7_band_245 ?_
                            refine g_last (pc := 246) hX 93 (by omega) (up_eq _ _ _) (by omega) (by omega) (by decide) dX7_band_246 ?_
                            refine g_at rfl rfl rfl (S2 := (va_up (va_up (va_up (va_up S123 93 (AJ w 1200 (mop V z (V (24 + 14 * z)) c))) 93 (AJ w 1200 (updZ (mop V z (V (24 + 14 * z)) c) (24 + (14 * z)) ((V (24 + 14 * z)) + 1)))) 93 (AJ w 1200 (updZ (updZ (mop V z (V (24 + 14 * z)) c) (24 + (14 * z)) ((V (24 + 14 * z)) + 1)) (24 + 14 * z + 2 + 2 * k) (lm)))) 93 (AJ w 1200 (updZ (updZ (updZ (mop V z (V (24 + 14 * z)) c) (24 + (14 * z)) ((V (24 + 14 * z)) + 1)) (24 + 14 * z + 2 + 2 * k) (lm)) ((24 + 14 * z + 2 + 2 * k) + 1) (p))))) rfl ?_
                            refine g_iload (pc := 247) hX 5 rfl dX7_band_247 ?_
                            refine g_iret (pc := 249) hX hR dX7_band_249 ?_
                            try simp only [decide_eq_true_eq, decide_eq_false_iff_not] at c_142
                            subst hc2
                            subst hkk
                            exact (if_pos ((show (0 ≤ z ∧ z ≤ 3) ∧ (1 ≤ lm ∧ lm ≤ 100000) ∧ 0 ≤ p ∧ p ≤ 100000 by omega))).mpr ((if_neg (hno)).mpr ((if_neg (by omega)).mpr (⟨rfl, ⟨⟨⟨(up_ne (by decide) (up_ne (by decide) (up_ne (by decide) (up_ne (by decide) m123_92)))), (up_eq _ _ _), (up_ne (by decide) (up_ne (by decide) (up_ne (by decide) (up_ne (by decide) m123_94))))⟩, ⟨(up_ne (by decide) (up_ne (by decide) (up_ne (by decide) (up_ne (by decide) m123_95)))), (up_ne (by decide) (up_ne (by decide) (up_ne (by decide) (up_ne (by decide) m123_96))))⟩, ⟨(up_ne (by decide) (up_ne (by decide) (up_ne (by decide) (up_ne (by decide) m123_97)))), (up_ne (by decide) (up_ne (by decide) (up_ne (by decide) (up_ne (by decide) m123_98)))), (up_ne (by decide) (up_ne (by decide) (up_ne (by decide) (up_ne (by decide) m123_99)))), (up_ne (by decide) (up_ne (by decide) (up_ne (by decide) (up_ne (by decide) m123_100)))), (up_ne (by decide) (up_ne (by decide) (up_ne (by decide) (up_ne (by decide) m123_101))))⟩, ⟨(up_ne (by decide) (up_ne (by decide) (up_ne (by decide) (up_ne (by decide) m123_102)))), (up_ne (by decide) (up_ne (by decide) (up_ne (by decide) (up_ne (by decide) m123_103)))), (up_ne (by decide) (up_ne (by decide) (up_ne (by decide) (up_ne (by decide) m123_104))))⟩⟩, fun q hq => (up_ne (by omega) (up_ne (by omega) (up_ne (by omega) (up_ne (by omega) ((hP123.2 q hq).trans rfl)))))⟩⟩)))
                          · skip
                            refine g_aload_n (pc := 145) hX 1 rfl dX7_band_145 ?_
                            refine g_get (pc := 146) hX (ci := 7) (fun _ h => List.mem_cons_of_mem _ (List.mem_append_right _ h)) rfl 92 (by omega) (up_ne (by decide) m123_92) 0 (by decide) (List.mem_of_getElem? (i := 3) rfl) rfl (v := .ref (gw_ad w 93)) rfl dX7_band_146 ?_
                            refine g_iload_n (pc := 149) hX 2 rfl dX7_band_149 ?_
                            refine g_iload (pc := 150) hX 0 rfl dX7_band_150 ?_
                            refine g_callT1 (pc := 152) (As := [vI (z), vI (V (24 + 14 * z) - c)]) (st2 := [.ref (gw_ad w 93)]) hX (c_X7_placeOf (z := z) (k := V (24 + 14 * z) - c)) gX7_band_X7_placeOf (n := 2) (hw := rfl) (hrc := rfl) (hrs := rfl) (hd := by decide +kernel) (hR := ⟨Nat.le_of_ble_eq_true rfl, Nat.le_of_ble_eq_true rfl⟩) (hn := rfl) (hst := rfl) (hsum := Nat.le_of_ble_eq_true rfl) (hdg := dX7_band_152) ?_
                            rintro _ S9 ⟨rfl, e9⟩
                            rw [e9]
                            clear e9 S9
                            refine g_at (pc2 := 155) rfl rfl (st2 := [vI (24 + 14 * z + 2 + 2 * (V (24 + 14 * z) - c)), .ref (gw_ad w 93)]) rfl (S2 := (va_up S123 93 (AJ w 1200 (mop V z (V (24 + 14 * z)) c)))) rfl ?_
                            refine g_aload_n (pc := 155) hX 1 rfl dX7_band_155 ?_
                            refine g_get (pc := 156) hX (ci := 7) (fun _ h => List.mem_cons_of_mem _ (List.mem_append_right _ h)) rfl 92 (by omega) (up_ne (by decide) m123_92) 0 (by decide) (List.mem_of_getElem? (i := 3) rfl) rfl (v := .ref (gw_ad w 93)) rfl dX7_band_156 ?_
                            refine g_iload_n (pc := 159) hX 2 rfl dX7_band_159 ?_
                            refine g_iload (pc := 160) hX 0 rfl dX7_band_160 ?_
                            refine g_iconst (pc := 162) hX dX7_band_162 ?_
                            refine g_isub (pc := 163) hX dX7_band_163 ?_
                            refine g_callT1 (pc := 164) (As := [vI (z), vI ((V (24 + 14 * z) - c) - 1)]) (st2 := [.ref (gw_ad w 93), vI (24 + 14 * z + 2 + 2 * (V (24 + 14 * z) - c)), .ref (gw_ad w 93)]) hX (c_X7_placeOf (z := z) (k := (V (24 + 14 * z) - c) - 1)) gX7_band_X7_placeOf (n := 2) (hw := rfl) (hrc := rfl) (hrs := rfl) (hd := by decide +kernel) (hR := ⟨Nat.le_of_ble_eq_true rfl, Nat.le_of_ble_eq_true rfl⟩) (hn := rfl) (hst := rfl) (hsum := Nat.le_of_ble_eq_true rfl) (hdg := dX7_band_164) ?_
                            rintro _ S9 ⟨rfl, e9⟩
                            rw [e9]
                            clear e9 S9
                            refine g_at (pc2 := 167) rfl rfl (st2 := [vI (24 + 14 * z + 2 + 2 * ((V (24 + 14 * z) - c) - 1)), .ref (gw_ad w 93), vI (24 + 14 * z + 2 + 2 * (V (24 + 14 * z) - c)), .ref (gw_ad w 93)]) rfl (S2 := (va_up S123 93 (AJ w 1200 (mop V z (V (24 + 14 * z)) c)))) rfl ?_
                            refine g_lald (pc := 167) hX 93 (by omega) (up_eq _ _ _) (by omega) (by omega) (by decide) dX7_band_167 ?_
                            refine g_last (pc := 168) hX 93 (by omega) (up_eq _ _ _) (by omega) (by omega) (by decide) dX7_band_168 ?_
                            refine g_at rfl rfl rfl (S2 := (va_up (va_up S123 93 (AJ w 1200 (mop V z (V (24 + 14 * z)) c))) 93 (AJ w 1200 (updZ (mop V z (V (24 + 14 * z)) c) (24 + 14 * z + 2 + 2 * (V (24 + 14 * z) - c)) ((mop V z (V (24 + 14 * z)) c) (24 + 14 * z + 2 + 2 * ((V (24 + 14 * z) - c) - 1))))))) rfl ?_
                            refine g_aload_n (pc := 169) hX 1 rfl dX7_band_169 ?_
                            refine g_get (pc := 170) hX (ci := 7) (fun _ h => List.mem_cons_of_mem _ (List.mem_append_right _ h)) rfl 92 (by omega) (up_ne (by decide) (up_ne (by decide) m123_92)) 0 (by decide) (List.mem_of_getElem? (i := 3) rfl) rfl (v := .ref (gw_ad w 93)) rfl dX7_band_170 ?_
                            refine g_iload_n (pc := 173) hX 2 rfl dX7_band_173 ?_
                            refine g_iload (pc := 174) hX 0 rfl dX7_band_174 ?_
                            refine g_callT1 (pc := 176) (As := [vI (z), vI (V (24 + 14 * z) - c)]) (st2 := [.ref (gw_ad w 93)]) hX (c_X7_placeOf (z := z) (k := V (24 + 14 * z) - c)) gX7_band_X7_placeOf (n := 2) (hw := rfl) (hrc := rfl) (hrs := rfl) (hd := by decide +kernel) (hR := ⟨Nat.le_of_ble_eq_true rfl, Nat.le_of_ble_eq_true rfl⟩) (hn := rfl) (hst := rfl) (hsum := Nat.le_of_ble_eq_true rfl) (hdg := dX7_band_176) ?_
                            rintro _ S9 ⟨rfl, e9⟩
                            rw [e9]
                            clear e9 S9
                            refine g_at (pc2 := 179) rfl rfl (st2 := [vI (24 + 14 * z + 2 + 2 * (V (24 + 14 * z) - c)), .ref (gw_ad w 93)]) rfl (S2 := (va_up (va_up S123 93 (AJ w 1200 (mop V z (V (24 + 14 * z)) c))) 93 (AJ w 1200 (updZ (mop V z (V (24 + 14 * z)) c) (24 + 14 * z + 2 + 2 * (V (24 + 14 * z) - c)) ((mop V z (V (24 + 14 * z)) c) (24 + 14 * z + 2 + 2 * ((V (24 + 14 * z) - c) - 1))))))) rfl ?_
                            refine g_iconst (pc := 179) hX dX7_band_179 ?_
                            refine g_iadd (pc := 180) hX dX7_band_180 ?_
                            refine g_aload_n (pc := 181) hX 1 rfl dX7_band_181 ?_
                            refine g_get (pc := 182) hX (ci := 7) (fun _ h => List.mem_cons_of_mem _ (List.mem_append_right _ h)) rfl 92 (by omega) (up_ne (by decide) (up_ne (by decide) m123_92)) 0 (by decide) (List.mem_of_getElem? (i := 3) rfl) rfl (v := .ref (gw_ad w 93)) rfl dX7_band_182 ?_
                            refine g_iload_n (pc := 185) hX 2 rfl dX7_band_185 ?_
                            refine g_iload (pc := 186) hX 0 rfl dX7_band_186 ?_
                            refine g_iconst (pc := 188) hX dX7_band_188 ?_
                            refine g_isub (pc := 189) hX dX7_band_189 ?_
                            refine g_callT1 (pc := 190) (As := [vI (z), vI ((V (24 + 14 * z) - c) - 1)]) (st2 := [.ref (gw_ad w 93), vI ((24 + 14 * z + 2 + 2 * (V (24 + 14 * z) - c)) + 1), .ref (gw_ad w 93)]) hX (c_X7_placeOf (z := z) (k := (V (24 + 14 * z) - c) - 1)) gX7_band_X7_placeOf (n := 2) (hw := rfl) (hrc := rfl) (hrs := rfl) (hd := by decide +kernel) (hR := ⟨Nat.le_of_ble_eq_true rfl, Nat.le_of_ble_eq_true rfl⟩) (hn := rfl) (hst := rfl) (hsum := Nat.le_of_ble_eq_true rfl) (hdg := dX7_band_190) ?_
                            rintro _ S9 ⟨rfl, e9⟩
                            rw [e9]
                            clear e9 S9
                            refine g_at (pc2 := 193) rfl rfl (st2 := [vI (24 + 14 * z + 2 + 2 * ((V (24 + 14 * z) - c) - 1)), .ref (gw_ad w 93), vI ((24 + 14 * z + 2 + 2 * (V (24 + 14 * z) - c)) + 1), .ref (gw_ad w 93)]) rfl (S2 := (va_up (va_up S123 93 (AJ w 1200 (mop V z (V (24 + 14 * z)) c))) 93 (AJ w 1200 (updZ (mop V z (V (24 + 14 * z)) c) (24 + 14 * z + 2 + 2 * (V (24 + 14 * z) - c)) ((mop V z (V (24 + 14 * z)) c) (24 + 14 * z + 2 + 2 * ((V (24 + 14 * z) - c) - 1))))))) rfl ?_
                            refine g_iconst (pc := 193) hX dX7_band_193 ?_
                            refine g_iadd (pc := 194) hX dX7_band_194 ?_
                            refine g_lald (pc := 195) hX 93 (by omega) (up_eq _ _ _) (by omega) (by omega) (by decide) dX7_band_195 ?_
                            refine g_last (pc := 196) hX 93 (by omega) (up_eq _ _ _) (by omega) (by omega) (by decide) dX7_band_196 ?_
                            refine g_at rfl rfl rfl (S2 := (va_up (va_up (va_up S123 93 (AJ w 1200 (mop V z (V (24 + 14 * z)) c))) 93 (AJ w 1200 (updZ (mop V z (V (24 + 14 * z)) c) (24 + 14 * z + 2 + 2 * (V (24 + 14 * z) - c)) ((mop V z (V (24 + 14 * z)) c) (24 + 14 * z + 2 + 2 * ((V (24 + 14 * z) - c) - 1)))))) 93 (AJ w 1200 (updZ (updZ (mop V z (V (24 + 14 * z)) c) (24 + 14 * z + 2 + 2 * (V (24 + 14 * z) - c)) ((mop V z (V (24 + 14 * z)) c) (24 + 14 * z + 2 + 2 * ((V (24 + 14 * z) - c) - 1)))) ((24 + 14 * z + 2 + 2 * (V (24 + 14 * z) - c)) + 1) ((updZ (mop V z (V (24 + 14 * z)) c) (24 + 14 * z + 2 + 2 * (V (24 + 14 * z) - c)) ((mop V z (V (24 + 14 * z)) c) (24 + 14 * z + 2 + 2 * ((V (24 + 14 * z) - c) - 1)))) ((24 + 14 * z + 2 + 2 * ((V (24 + 14 * z) - c) - 1)) + 1)))))) rfl ?_
                            refine g_iinc (pc := 197) hX (lv2 := [(6, vI (V (24 + 14 * z) - c + (-1))), (0, .ref (gw_ad w 92)), (1, vI (z)), (2, vI (lm)), (3, vI (p)), (4, vI (k)), (5, vI (0))]) 0 rfl (by decide) rfl dX7_band_197 ?_
                            refine g_goto (pc := 200) (tgt := 138) hX dX7_band_200 (by decide) ?_
                            refine g_sub (lv2 := [(6, vI (V (24 + 14 * z) - c + (-1))), (0, .ref (gw_ad w 92)), (1, vI (z)), (2, vI (lm)), (3, vI (p)), (4, vI (k)), (5, vI (0))]) [0, 1, 2, 3, 4, 5, 6] rfl ?_
                            refine g_at rfl (lv2 := [(6, vI (V (24 + 14 * z) - (c + 1))), (0, .ref (gw_ad w 92)), (1, vI (z)), (2, vI (lm)), (3, vI (p)), (4, vI (k)), (5, vI (0))]) (by rw [show V (24 + 14 * z) - c + -1 = V (24 + 14 * z) - (c + 1) by omega]) rfl (S2 := (va_up S123 93 (AJ w 1200 (mop V z (V (24 + 14 * z)) (c + 1))))) (by rw [up_up, up_up, mop_s h1c]) ?_
                            exact ihls (c + 1)  (by omega) (by omega) (by omega) 
                      refine g_sub (lv2 := [(6, vI (V (24 + 14 * z))), (0, .ref (gw_ad w 92)), (1, vI (z)), (2, vI (lm)), (3, vI (p)), (4, vI (k)), (5, vI (0))]) [0, 3, 4, 5, 6, 2, 1] rfl ?_
                      refine g_at rfl (lv2 := [(6, vI (V (24 + 14 * z) - 0)), (0, .ref (gw_ad w 92)), (1, vI (z)), (2, vI (lm)), (3, vI (p)), (4, vI (k)), (5, vI (0))]) (by rw [Int.sub_zero]) rfl (S2 := (va_up S123 93 (AJ w 1200 (mop V z (V (24 + 14 * z)) 0)))) (by rw [mop_0, up_self (f := S123) m123_93]) ?_
                      exact ls ((V (24 + 14 * z) - k : Int) - 0 + 1).toNat 0  (by omega) (by omega) (by omega) 
                  · skip
                    refine g_ldc (pc := 119) hX (z := -1000003) (List.mem_of_getElem? (i := 4) rfl) (by decide +kernel) dX7_band_119 ?_
                    refine g_iret (pc := 121) hX hR dX7_band_121 ?_
                    try simp only [decide_eq_true_eq, decide_eq_false_iff_not] at c_44 c_77 c_106 c_116
                    exact (if_pos ((show (0 ≤ z ∧ z ≤ 3) ∧ (1 ≤ lm ∧ lm ≤ 100000) ∧ 0 ≤ p ∧ p ≤ 100000 by omega))).mpr ((if_neg (hno)).mpr ((if_pos (by omega)).mpr (⟨rfl, rfl⟩)))
              · skip
                refine g_aload_n (pc := 80) hX 1 rfl dX7_band_80 ?_
                refine g_get (pc := 81) hX (ci := 7) (fun _ h => List.mem_cons_of_mem _ (List.mem_append_right _ h)) rfl 92 (by omega) m92 0 (by decide) (List.mem_of_getElem? (i := 3) rfl) rfl (v := .ref (gw_ad w 93)) rfl dX7_band_81 ?_
                refine g_iload_n (pc := 84) hX 2 rfl dX7_band_84 ?_
                refine g_iload (pc := 85) hX 0 rfl dX7_band_85 ?_
                refine g_callT1 (pc := 87) (As := [vI (z), vI (k)]) (st2 := [.ref (gw_ad w 93)]) hX (c_X7_placeOf (z := z) (k := k)) gX7_band_X7_placeOf (n := 2) (hw := rfl) (hrc := rfl) (hrs := rfl) (hd := by decide +kernel) (hR := ⟨Nat.le_of_ble_eq_true rfl, Nat.le_of_ble_eq_true rfl⟩) (hn := rfl) (hst := rfl) (hsum := Nat.le_of_ble_eq_true rfl) (hdg := dX7_band_87) ?_
                rintro _ S9 ⟨rfl, e9⟩
                rw [e9]
                clear e9 S9
                refine g_at (pc2 := 90) rfl rfl (st2 := [vI (24 + 14 * z + 2 + 2 * k), .ref (gw_ad w 93)]) rfl (S2 := S) rfl ?_
                refine g_lald (pc := 90) hX 93 (by omega) m93 (by omega) (by omega) (by decide) dX7_band_90 ?_
                refine g_iload_n (pc := 91) hX 3 rfl dX7_band_91 ?_
                refine g_i2l (pc := 92) hX (by first | assumption | exact inI_mk (by omega) (by omega)) dX7_band_92 ?_
                refine g_lcmp_ne (pc := 93) (tgt := 101) hX (by first | assumption | exact inI_L (by assumption) | exact inL_mk (by omega) (by omega)) (by first | assumption | exact inI_L (by assumption) | exact inL_mk (by omega) (by omega)) dX7_band_93 dX7_band_94 (by decide) (fun c_93 => ?_) (fun c_93 => ?_)
                · skip
                  refine g_iconst (pc := 101) hX dX7_band_101 ?_
                  refine g_istore (pc := 102) hX (lv2 := [(5, vI (0)), (4, vI (k)), (0, .ref (gw_ad w 92)), (1, vI (z)), (2, vI (lm)), (3, vI (p))]) (by decide) rfl dX7_band_102 ?_
                  have hno : ¬ (mbx V z lm < V (24 + 14 * z) ∧ V (24 + 14 * z + 2 + 2 * mbx V z lm) = lm) := by rw [← hkk]; omega
                  refine g_iload (pc := 104) hX 0 rfl dX7_band_104 ?_
                  refine g_if_ne (pc := 106) (tgt := 122) hX (by first | assumption | exact inI_mk (by omega) (by omega)) dX7_band_106 (by decide) (fun c_106 => ?_) (fun c_106 => ?_)
                  · skip
                    exact absurd c_106 (by omega)
                  · skip
                    refine g_aload_n (pc := 109) hX 2 rfl dX7_band_109 ?_
                    refine g_iload_n (pc := 110) hX 3 rfl dX7_band_110 ?_
                    refine g_callV1 (pc := 111) (ci := 7) (As := [vI (z)]) (st2 := []) hX 92 (by omega) m92 rfl (c_X7_bands hN hm (z := z) (by omega) (by omega)) gX7_band_X7_bands (n := 1) (hw := rfl) (hrc := rfl) (hrs := rfl) (hd := by decide +kernel) (hR := ⟨Nat.le_of_ble_eq_true rfl, Nat.le_of_ble_eq_true rfl⟩) (hn := rfl) (hst := rfl) (hsum := Nat.le_of_ble_eq_true rfl) (hdg := dX7_band_111) ?_
                    rintro _ S9 ⟨rfl, e9⟩
                    rw [e9]
                    clear e9 S9
                    refine g_at (pc2 := 114) rfl rfl (st2 := [vI (V (24 + 14 * z))]) rfl (S2 := S) rfl ?_
                    refine g_bipush (pc := 114) hX (by decide) dX7_band_114 ?_
                    refine g_icmp_ne (pc := 116) (tgt := 122) hX (by first | assumption | exact inI_mk (by omega) (by omega)) (by first | assumption | exact inI_mk (by omega) (by omega)) dX7_band_116 (by decide) (fun c_116 => ?_) (fun c_116 => ?_)
                    · skip
                      refine g_aload_n (pc := 122) hX 2 rfl dX7_band_122 ?_
                      refine g_callV0 (pc := 123) (ci := 7) (As := []) (st2 := []) hX 92 (by omega) m92 rfl (c_X7_act hN hm hpm) gX7_band_X7_act (n := 0) (hw := rfl) (hrc := rfl) (hrs := rfl) (hd := by decide +kernel) (hR := ⟨Nat.le_of_ble_eq_true rfl, Nat.le_of_ble_eq_true rfl⟩) (hn := rfl) (hst := rfl) (hsum := Nat.le_of_ble_eq_true rfl) (hdg := dX7_band_123) ?_
                      rintro S123 hP123
                      obtain ⟨⟨m123_92, m123_93, m123_94⟩, ⟨m123_95, m123_96⟩, ⟨m123_97, m123_98, m123_99, m123_100, m123_101⟩, ⟨m123_102, m123_103, m123_104⟩⟩ := hP123.1
                      refine g_at (pc2 := 126) rfl rfl (st2 := []) rfl (S2 := S123) rfl ?_
                      refine g_iload (pc := 126) hX 0 rfl dX7_band_126 ?_
                      refine g_if_ne (pc := 128) (tgt := 219) hX (by first | assumption | exact inI_mk (by omega) (by omega)) dX7_band_128 (by decide) (fun c_128 => ?_) (fun c_128 => ?_)
                      · skip
                        exact absurd c_128 (by omega)
                      · skip
                        refine g_aload_n (pc := 131) hX 2 rfl dX7_band_131 ?_
                        refine g_iload_n (pc := 132) hX 3 rfl dX7_band_132 ?_
                        refine g_callV1 (pc := 133) (ci := 7) (As := [vI (z)]) (st2 := []) hX 92 (by omega) m123_92 rfl (c_X7_bands hN (show modelAt w (actN pm) tm xm at_ wm wh ir V (actP pm PV V) TY TX MK MM CH AM WT WK FL PI S123 from ⟨⟨m123_92, m123_93, m123_94⟩, ⟨m123_95, m123_96⟩, ⟨m123_97, m123_98, m123_99, m123_100, m123_101⟩, ⟨m123_102, m123_103, m123_104⟩⟩) (z := z) (by omega) (by omega)) gX7_band_X7_bands (n := 1) (hw := rfl) (hrc := rfl) (hrs := rfl) (hd := by decide +kernel) (hR := ⟨Nat.le_of_ble_eq_true rfl, Nat.le_of_ble_eq_true rfl⟩) (hn := rfl) (hst := rfl) (hsum := Nat.le_of_ble_eq_true rfl) (hdg := dX7_band_133) ?_
                        rintro _ S9 ⟨rfl, e9⟩
                        rw [e9]
                        clear e9 S9
                        refine g_at (pc2 := 136) rfl rfl (st2 := [vI (V (24 + 14 * z))]) rfl (S2 := S123) rfl ?_
                        refine g_istore (pc := 136) hX (lv2 := [(6, vI (V (24 + 14 * z))), (5, vI (0)), (4, vI (k)), (0, .ref (gw_ad w 92)), (1, vI (z)), (2, vI (lm)), (3, vI (p))]) (by decide) rfl dX7_band_136 ?_
                        have ls : ∀ (n0 : Nat) (c : Int), 0 ≤ c → c ≤ V (24 + 14 * z) - k → V (24 + 14 * z) - k - c < n0 → G w { frames := 2, cells := 0, slots := 0, locals := 45 } X 7 138 [(6, vI (V (24 + 14 * z) - c)), (0, .ref (gw_ad w 92)), (1, vI (z)), (2, vI (lm)), (3, vI (p)), (4, vI (k)), (5, vI (0))] [] (va_up S123 93 (AJ w 1200 (mop V z (V (24 + 14 * z)) c))) := by
                          intro n0
                          induction n0 with
                          | zero => intro c  h1c h2c h3c; exact absurd h3c (by omega)
                          | succ n0 ihls =>
                            intro c  h1c h2c h3c 
                            have hc : inI c := inI_mk (by omega) (by omega)
                            refine g_iload (pc := 138) hX 0 rfl dX7_band_138 ?_
                            refine g_iload (pc := 140) hX 5 rfl dX7_band_140 ?_
                            refine g_icmp_le (pc := 142) (tgt := 203) hX (by first | assumption | exact inI_mk (by omega) (by omega)) (by first | assumption | exact inI_mk (by omega) (by omega)) dX7_band_142 (by decide) (fun c_142 => ?_) (fun c_142 => ?_)
                            · skip
                              have hc2 : c = V (24 + 14 * z) - k := by omega
                              refine g_aload_n (pc := 203) hX 1 rfl dX7_band_203 ?_
                              refine g_get (pc := 204) hX (ci := 7) (fun _ h => List.mem_cons_of_mem _ (List.mem_append_right _ h)) rfl 92 (by omega) (up_ne (by decide) m123_92) 0 (by decide) (List.mem_of_getElem? (i := 3) rfl) rfl (v := .ref (gw_ad w 93)) rfl dX7_band_204 ?_
                              refine g_bipush (pc := 207) hX (by decide) dX7_band_207 ?_
                              refine g_bipush (pc := 209) hX (by decide) dX7_band_209 ?_
                              refine g_iload_n (pc := 211) hX 2 rfl dX7_band_211 ?_
                              refine g_imul (pc := 212) hX dX7_band_212 ?_
                              refine g_iadd (pc := 213) hX dX7_band_213 ?_
                              refine g_dup2 (pc := 214) hX rfl rfl dX7_band_214 ?_
                              refine g_lald (pc := 215) hX 93 (by omega) (up_eq _ _ _) (by omega) (by omega) (by decide) dX7_band_215 ?_
                              refine g_at rfl rfl (st2 := [vL (V (24 + 14 * z)), vI (24 + (14 * z)), .ref (gw_ad w 93)]) (by rw [show (mop V z (V (24 + 14 * z)) c) (24 + (14 * z)) = V (24 + 14 * z) from if_neg (by omega)]) rfl ?_
                              refine g_lconst (pc := 216) hX (z := 1) rfl dX7_band_216 ?_
                              refine g_ladd (pc := 217) hX dX7_band_217 ?_
                              refine g_last (pc := 218) hX 93 (by omega) (up_eq _ _ _) (by omega) (by omega) (by decide) dX7_band_218 ?_
                              refine g_at rfl rfl rfl (S2 := (va_up (va_up S123 93 (AJ w 1200 (mop V z (V (24 + 14 * z)) c))) 93 (AJ w 1200 (updZ (mop V z (V (24 + 14 * z)) c) (24 + (14 * z)) ((V (24 + 14 * z)) + 1))))) rfl ?_
                              refine g_aload_n (pc := 219) hX 1 rfl dX7_band_219 ?_
                              refine g_get (pc := 220) hX (ci := 7) (fun _ h => List.mem_cons_of_mem _ (List.mem_append_right _ h)) rfl 92 (by omega) (up_ne (by decide) (up_ne (by decide) m123_92)) 0 (by decide) (List.mem_of_getElem? (i := 3) rfl) rfl (v := .ref (gw_ad w 93)) rfl dX7_band_220 ?_
                              refine g_iload_n (pc := 223) hX 2 rfl dX7_band_223 ?_
                              refine g_iload (pc := 224) hX 5 rfl dX7_band_224 ?_
                              refine g_callT1 (pc := 226) (As := [vI (z), vI (k)]) (st2 := [.ref (gw_ad w 93)]) hX (c_X7_placeOf (z := z) (k := k)) gX7_band_X7_placeOf (n := 2) (hw := rfl) (hrc := rfl) (hrs := rfl) (hd := by decide +kernel) (hR := ⟨Nat.le_of_ble_eq_true rfl, Nat.le_of_ble_eq_true rfl⟩) (hn := rfl) (hst := rfl) (hsum := Nat.le_of_ble_eq_true rfl) (hdg := dX7_band_226) ?_
                              rintro _ S9 ⟨rfl, e9⟩
                              rw [e9]
                              clear e9 S9
                              refine g_at (pc2 := 229) rfl rfl (st2 := [vI (24 + 14 * z + 2 + 2 * k), .ref (gw_ad w 93)]) rfl (S2 := (va_up (va_up S123 93 (AJ w 1200 (mop V z (V (24 + 14 * z)) c))) 93 (AJ w 1200 (updZ (mop V z (V (24 + 14 * z)) c) (24 + (14 * z)) ((V (24 + 14 * z)) + 1))))) rfl ?_
                              refine g_iload_n (pc := 229) hX 3 rfl dX7_band_229 ?_
                              refine g_i2l (pc := 230) hX (by first | assumption | exact inI_mk (by omega) (by omega)) dX7_band_230 ?_
                              refine g_last (pc := 231) hX 93 (by omega) (up_eq _ _ _) (by omega) (by omega) (by decide) dX7_band_231 ?_
                              refine g_at rfl rfl rfl (S2 := (va_up (va_up (va_up S123 93 (AJ w 1200 (mop V z (V (24 + 14 * z)) c))) 93 (AJ w 1200 (updZ (mop V z (V (24 + 14 * z)) c) (24 + (14 * z)) ((V (24 + 14 * z)) + 1)))) 93 (AJ w 1200 (updZ (updZ (mop V z (V (24 + 14 * z)) c) (24 + (14 * z)) ((V (24 + 14 * z)) + 1)) (24 + 14 * z + 2 + 2 * k) (lm))))) rfl ?_
                              refine g_aload_n (pc := 232) hX 1 rfl dX7_band_232 ?_
                              refine g_get (pc := 233) hX (ci := 7) (fun _ h => List.mem_cons_of_mem _ (List.mem_append_right _ h)) rfl 92 (by omega) (up_ne (by decide) (up_ne (by decide) (up_ne (by decide) m123_92))) 0 (by decide) (List.mem_of_getElem? (i := 3) rfl) rfl (v := .ref (gw_ad w 93)) rfl dX7_band_233 ?_
                              refine g_iload_n (pc := 236) hX 2 rfl dX7_band_236 ?_
                              refine g_iload (pc := 237) hX 5 rfl dX7_band_237 ?_
                              refine g_callT1 (pc := 239) (As := [vI (z), vI (k)]) (st2 := [.ref (gw_ad w 93)]) hX (c_X7_placeOf (z := z) (k := k)) gX7_band_X7_placeOf (n := 2) (hw := rfl) (hrc := rfl) (hrs := rfl) (hd := by decide +kernel) (hR := ⟨Nat.le_of_ble_eq_true rfl, Nat.le_of_ble_eq_true rfl⟩) (hn := rfl) (hst := rfl) (hsum := Nat.le_of_ble_eq_true rfl) (hdg := dX7_band_239) ?_
                              rintro _ S9 ⟨rfl, e9⟩
                              rw [e9]
                              clear e9 S9
                              refine g_at (pc2 := 242) rfl rfl (st2 := [vI (24 + 14 * z + 2 + 2 * k), .ref (gw_ad w 93)]) rfl (S2 := (va_up (va_up (va_up S123 93 (AJ w 1200 (mop V z (V (24 + 14 * z)) c))) 93 (AJ w 1200 (updZ (mop V z (V (24 + 14 * z)) c) (24 + (14 * z)) ((V (24 + 14 * z)) + 1)))) 93 (AJ w 1200 (updZ (updZ (mop V z (V (24 + 14 * z)) c) (24 + (14 * z)) ((V (24 + 14 * z)) + 1)) (24 + 14 * z + 2 + 2 * k) (lm))))) rfl ?_
                              refine g_iconst (pc := 242) hX dX7_band_242 ?_
                              refine g_iadd (pc := 243) hX dX7_band_243 ?_
                              refine g_iload_n (pc := 244) hX 4 rfl dX7_band_244 ?_
                              refine g_i2l (pc := 245) hX (by first | assumption | exact inI_mk (by omega) (by omega)) dX7_band_245 ?_
                              refine g_last (pc := 246) hX 93 (by omega) (up_eq _ _ _) (by omega) (by omega) (by decide) dX7_band_246 ?_
                              refine g_at rfl rfl rfl (S2 := (va_up (va_up (va_up (va_up S123 93 (AJ w 1200 (mop V z (V (24 + 14 * z)) c))) 93 (AJ w 1200 (updZ (mop V z (V (24 + 14 * z)) c) (24 + (14 * z)) ((V (24 + 14 * z)) + 1)))) 93 (AJ w 1200 (updZ (updZ (mop V z (V (24 + 14 * z)) c) (24 + (14 * z)) ((V (24 + 14 * z)) + 1)) (24 + 14 * z + 2 + 2 * k) (lm)))) 93 (AJ w 1200 (updZ (updZ (updZ (mop V z (V (24 + 14 * z)) c) (24 + (14 * z)) ((V (24 + 14 * z)) + 1)) (24 + 14 * z + 2 + 2 * k) (lm)) ((24 + 14 * z + 2 + 2 * k) + 1) (p))))) rfl ?_
                              refine g_iload (pc := 247) hX 5 rfl dX7_band_247 ?_
                              refine g_iret (pc := 249) hX hR dX7_band_249 ?_
                              try simp only [decide_eq_true_eq, decide_eq_false_iff_not] at c_142
                              subst hc2
                              subst hkk
                              exact (if_pos ((show (0 ≤ z ∧ z ≤ 3) ∧ (1 ≤ lm ∧ lm ≤ 100000) ∧ 0 ≤ p ∧ p ≤ 100000 by omega))).mpr ((if_neg (hno)).mpr ((if_neg (by omega)).mpr (⟨rfl, ⟨⟨⟨(up_ne (by decide) (up_ne (by decide) (up_ne (by decide) (up_ne (by decide) m123_92)))), (up_eq _ _ _), (up_ne (by decide) (up_ne (by decide) (up_ne (by decide) (up_ne (by decide) m123_94))))⟩, ⟨(up_ne (by decide) (up_ne (by decide) (up_ne (by decide) (up_ne (by decide) m123_95)))), (up_ne (by decide) (up_ne (by decide) (up_ne (by decide) (up_ne (by decide) m123_96))))⟩, ⟨(up_ne (by decide) (up_ne (by decide) (up_ne (by decide) (up_ne (by decide) m123_97)))), (up_ne (by decide) (up_ne (by decide) (up_ne (by decide) (up_ne (by decide) m123_98)))), (up_ne (by decide) (up_ne (by decide) (up_ne (by decide) (up_ne (by decide) m123_99)))), (up_ne (by decide) (up_ne (by decide) (up_ne (by decide) (up_ne (by decide) m123_100)))), (up_ne (by decide) (up_ne (by decide) (up_ne (by decide) (up_ne (by decide) m123_101))))⟩, ⟨(up_ne (by decide) (up_ne (by decide) (up_ne (by decide) (up_ne (by decide) m123_102)))), (up_ne (by decide) (up_ne (by decide) (up_ne (by decide) (up_ne (by decide) m123_103)))), (up_ne (by decide) (up_ne (by decide) (up_ne (by decide) (up_ne (by decide) m123_104))))⟩⟩, fun q hq => (up_ne (by omega) (up_ne (by omega) (up_ne (by omega) (up_ne (by omega) ((hP123.2 q hq).trans rfl)))))⟩⟩)))
                            · skip
                              refine g_aload_n (pc := 145) hX 1 rfl dX7_band_145 ?_
                              refine g_get (pc := 146) hX (ci := 7) (fun _ h => List.mem_cons_of_mem _ (List.mem_append_right _ h)) rfl 92 (by omega) (up_ne (by decide) m123_92) 0 (by decide) (List.mem_of_getElem? (i := 3) rfl) rfl (v := .ref (gw_ad w 93)) rfl dX7_band_146 ?_
                              refine g_iload_n (pc := 149) hX 2 rfl dX7_band_149 ?_
                              refine g_iload (pc := 150) hX 0 rfl dX7_band_150 ?_
                              refine g_callT1 (pc := 152) (As := [vI (z), vI (V (24 + 14 * z) - c)]) (st2 := [.ref (gw_ad w 93)]) hX (c_X7_placeOf (z := z) (k := V (24 + 14 * z) - c)) gX7_band_X7_placeOf (n := 2) (hw := rfl) (hrc := rfl) (hrs := rfl) (hd := by decide +kernel) (hR := ⟨Nat.le_of_ble_eq_true rfl, Nat.le_of_ble_eq_true rfl⟩) (hn := rfl) (hst := rfl) (hsum := Nat.le_of_ble_eq_true rfl) (hdg := dX7_band_152) ?_
                              rintro _ S9 ⟨rfl, e9⟩
                              rw [e9]
                              clear e9 S9
                              refine g_at (pc2 := 155) rfl rfl (st2 := [vI (24 + 14 * z + 2 + 2 * (V (24 + 14 * z) - c)), .ref (gw_ad w 93)]) rfl (S2 := (va_up S123 93 (AJ w 1200 (mop V z (V (24 + 14 * z)) c)))) rfl ?_
                              refine g_aload_n (pc := 155) hX 1 rfl dX7_band_155 ?_
                              refine g_get (pc := 156) hX (ci := 7) (fun _ h => List.mem_cons_of_mem _ (List.mem_append_right _ h)) rfl 92 (by omega) (up_ne (by decide) m123_92) 0 (by decide) (List.mem_of_getElem? (i := 3) rfl) rfl (v := .ref (gw_ad w 93)) rfl dX7_band_156 ?_
                              refine g_iload_n (pc := 159) hX 2 rfl dX7_band_159 ?_
                              refine g_iload (pc := 160) hX 0 rfl dX7_band_160 ?_
                              refine g_iconst (pc := 162) hX dX7_band_162 ?_
                              refine g_isub (pc := 163) hX dX7_band_163 ?_
                              refine g_callT1 (pc := 164) (As := [vI (z), vI ((V (24 + 14 * z) - c) - 1)]) (st2 := [.ref (gw_ad w 93), vI (24 + 14 * z + 2 + 2 * (V (24 + 14 * z) - c)), .ref (gw_ad w 93)]) hX (c_X7_placeOf (z := z) (k := (V (24 + 14 * z) - c) - 1)) gX7_band_X7_placeOf (n := 2) (hw := rfl) (hrc := rfl) (hrs := rfl) (hd := by decide +kernel) (hR := ⟨Nat.le_of_ble_eq_true rfl, Nat.le_of_ble_eq_true rfl⟩) (hn := rfl) (hst := rfl) (hsum := Nat.le_of_ble_eq_true rfl) (hdg := dX7_band_164) ?_
                              rintro _ S9 ⟨rfl, e9⟩
                              rw [e9]
                              clear e9 S9
                              refine g_at (pc2 := 167) rfl rfl (st2 := [vI (24 + 14 * z + 2 + 2 * ((V (24 + 14 * z) - c) - 1)), .ref (gw_ad w 93), vI (24 + 14 * z + 2 + 2 * (V (24 + 14 * z) - c)), .ref (gw_ad w 93)]) rfl (S2 := (va_up S123 93 (AJ w 1200 (mop V z (V (24 + 14 * z)) c)))) rfl ?_
                              refine g_lald (pc := 167) hX 93 (by omega) (up_eq _ _ _) (by omega) (by omega) (by decide) dX7_band_167 ?_
                              refine g_last (pc := 168) hX 93 (by omega) (up_eq _ _ _) (by omega) (by omega) (by decide) dX7_band_168 ?_
                              refine g_at rfl rfl rfl (S2 := (va_up (va_up S123 93 (AJ w 1200 (mop V z (V (24 + 14 * z)) c))) 93 (AJ w 1200 (updZ (mop V z (V (24 + 14 * z)) c) (24 + 14 * z + 2 + 2 * (V (24 + 14 * z) - c)) ((mop V z (V (24 + 14 * z)) c) (24 + 14 * z + 2 + 2 * ((V (24 + 14 * z) - c) - 1))))))) rfl ?_
                              refine g_aload_n (pc := 169) hX 1 rfl dX7_band_169 ?_
                              refine g_get (pc := 170) hX (ci := 7) (fun _ h => List.mem_cons_of_mem _ (List.mem_append_right _ h)) rfl 92 (by omega) (up_ne (by decide) (up_ne (by decide) m123_92)) 0 (by decide) (List.mem_of_getElem? (i := 3) rfl) rfl (v := .ref (gw_ad w 93)) rfl dX7_band_170 ?_
                              refine g_iload_n (pc := 173) hX 2 rfl dX7_band_173 ?_
                              refine g_iload (pc := 174) hX 0 rfl dX7_band_174 ?_
                              refine g_callT1 (pc := 176) (As := [vI (z), vI (V (24 + 14 * z) - c)]) (st2 := [.ref (gw_ad w 93)]) hX (c_X7_placeOf (z := z) (k := V (24 + 14 * z) - c)) gX7_band_X7_placeOf (n := 2) (hw := rfl) (hrc := rfl) (hrs := rfl) (hd := by decide +kernel) (hR := ⟨Nat.le_of_ble_eq_true rfl, Nat.le_of_ble_eq_true rfl⟩) (hn := rfl) (hst := rfl) (hsum := Nat.le_of_ble_eq_true rfl) (hdg := dX7_band_176) ?_
                              rintro _ S9 ⟨rfl, e9⟩
                              rw [e9]
                              clear e9 S9
                              refine g_at (pc2 := 179) rfl rfl (st2 := [vI (24 + 14 * z + 2 + 2 * (V (24 + 14 * z) - c)), .ref (gw_ad w 93)]) rfl (S2 := (va_up (va_up S123 93 (AJ w 1200 (mop V z (V (24 + 14 * z)) c))) 93 (AJ w 1200 (updZ (mop V z (V (24 + 14 * z)) c) (24 + 14 * z + 2 + 2 * (V (24 + 14 * z) - c)) ((mop V z (V (24 + 14 * z)) c) (24 + 14 * z + 2 + 2 * ((V (24 + 14 * z) - c) - 1))))))) rfl ?_
                              refine g_iconst (pc := 179) hX dX7_band_179 ?_
                              refine g_iadd (pc := 180) hX dX7_band_180 ?_
                              refine g_aload_n (pc := 181) hX 1 rfl dX7_band_181 ?_
                              refine g_get (pc := 182) hX (ci := 7) (fun _ h => List.mem_cons_of_mem _ (List.mem_append_right _ h)) rfl 92 (by omega) (up_ne (by decide) (up_ne (by decide) m123_92)) 0 (by decide) (List.mem_of_getElem? (i := 3) rfl) rfl (v := .ref (gw_ad w 93)) rfl dX7_band_182 ?_
                              refine g_iload_n (pc := 185) hX 2 rfl dX7_band_185 ?_
                              refine g_iload (pc := 186) hX 0 rfl dX7_band_186 ?_
                              refine g_iconst (pc := 188) hX dX7_band_188 ?_
                              refine g_isub (pc := 189) hX dX7_band_189 ?_
                              refine g_callT1 (pc := 190) (As := [vI (z), vI ((V (24 + 14 * z) - c) - 1)]) (st2 := [.ref (gw_ad w 93), vI ((24 + 14 * z + 2 + 2 * (V (24 + 14 * z) - c)) + 1), .ref (gw_ad w 93)]) hX (c_X7_placeOf (z := z) (k := (V (24 + 14 * z) - c) - 1)) gX7_band_X7_placeOf (n := 2) (hw := rfl) (hrc := rfl) (hrs := rfl) (hd := by decide +kernel) (hR := ⟨Nat.le_of_ble_eq_true rfl, Nat.le_of_ble_eq_true rfl⟩) (hn := rfl) (hst := rfl) (hsum := Nat.le_of_ble_eq_true rfl) (hdg := dX7_band_190) ?_
                              rintro _ S9 ⟨rfl, e9⟩
                              rw [e9]
                              clear e9 S9
                              refine g_at (pc2 := 193) rfl rfl (st2 := [vI (24 + 14 * z + 2 + 2 * ((V (24 + 14 * z) - c) - 1)), .ref (gw_ad w 93), vI ((24 + 14 * z + 2 + 2 * (V (24 + 14 * z) - c)) + 1), .ref (gw_ad w 93)]) rfl (S2 := (va_up (va_up S123 93 (AJ w 1200 (mop V z (V (24 + 14 * z)) c))) 93 (AJ w 1200 (updZ (mop V z (V (24 + 14 * z)) c) (24 + 14 * z + 2 + 2 * (V (24 + 14 * z) - c)) ((mop V z (V (24 + 14 * z)) c) (24 + 14 * z + 2 + 2 * ((V (24 + 14 * z) - c) - 1))))))) rfl ?_
                              refine g_iconst (pc := 193) hX dX7_band_193 ?_
                              refine g_iadd (pc := 194) hX dX7_band_194 ?_
                              refine g_lald (pc := 195) hX 93 (by omega) (up_eq _ _ _) (by omega) (by omega) (by decide) dX7_band_195 ?_
                              refine g_last (pc := 196) hX 93 (by omega) (up_eq _ _ _) (by omega) (by omega) (by decide) dX7_band_196 ?_
                              refine g_at rfl rfl rfl (S2 := (va_up (va_up (va_up S123 93 (AJ w 1200 (mop V z (V (24 + 14 * z)) c))) 93 (AJ w 1200 (updZ (mop V z (V (24 + 14 * z)) c) (24 + 14 * z + 2 + 2 * (V (24 + 14 * z) - c)) ((mop V z (V (24 + 14 * z)) c) (24 + 14 * z + 2 + 2 * ((V (24 + 14 * z) - c) - 1)))))) 93 (AJ w 1200 (updZ (updZ (mop V z (V (24 + 14 * z)) c) (24 + 14 * z + 2 + 2 * (V (24 + 14 * z) - c)) ((mop V z (V (24 + 14 * z)) c) (24 + 14 * z + 2 + 2 * ((V (24 + 14 * z) - c) - 1)))) ((24 + 14 * z + 2 + 2 * (V (24 + 14 * z) - c)) + 1) ((updZ (mop V z (V (24 + 14 * z)) c) (24 + 14 * z + 2 + 2 * (V (24 + 14 * z) - c)) ((mop V z (V (24 + 14 * z)) c) (24 + 14 * z + 2 + 2 * ((V (24 + 14 * z) - c) - 1)))) ((24 + 14 * z + 2 + 2 * ((V (24 + 14 * z) - c) - 1)) + 1)))))) rfl ?_
                              refine g_iinc (pc := 197) hX (lv2 := [(6, vI (V (24 + 14 * z) - c + (-1))), (0, .ref (gw_ad w 92)), (1, vI (z)), (2, vI (lm)), (3, vI (p)), (4, vI (k)), (5, vI (0))]) 0 rfl (by decide) rfl dX7_band_197 ?_
                              refine g_goto (pc := 200) (tgt := 138) hX dX7_band_200 (by decide) ?_
                              refine g_sub (lv2 := [(6, vI (V (24 + 14 * z) - c + (-1))), (0, .ref (gw_ad w 92)), (1, vI (z)), (2, vI (lm)), (3, vI (p)), (4, vI (k)), (5, vI (0))]) [0, 1, 2, 3, 4, 5, 6] rfl ?_
                              refine g_at rfl (lv2 := [(6, vI (V (24 + 14 * z) - (c + 1))), (0, .ref (gw_ad w 92)), (1, vI (z)), (2, vI (lm)), (3, vI (p)), (4, vI (k)), (5, vI (0))]) (by rw [show V (24 + 14 * z) - c + -1 = V (24 + 14 * z) - (c + 1) by omega]) rfl (S2 := (va_up S123 93 (AJ w 1200 (mop V z (V (24 + 14 * z)) (c + 1))))) (by rw [up_up, up_up, mop_s h1c]) ?_
                              exact ihls (c + 1)  (by omega) (by omega) (by omega) 
                        refine g_sub (lv2 := [(6, vI (V (24 + 14 * z))), (0, .ref (gw_ad w 92)), (1, vI (z)), (2, vI (lm)), (3, vI (p)), (4, vI (k)), (5, vI (0))]) [0, 3, 4, 5, 6, 2, 1] rfl ?_
                        refine g_at rfl (lv2 := [(6, vI (V (24 + 14 * z) - 0)), (0, .ref (gw_ad w 92)), (1, vI (z)), (2, vI (lm)), (3, vI (p)), (4, vI (k)), (5, vI (0))]) (by rw [Int.sub_zero]) rfl (S2 := (va_up S123 93 (AJ w 1200 (mop V z (V (24 + 14 * z)) 0)))) (by rw [mop_0, up_self (f := S123) m123_93]) ?_
                        exact ls ((V (24 + 14 * z) - k : Int) - 0 + 1).toNat 0  (by omega) (by omega) (by omega) 
                    · skip
                      refine g_ldc (pc := 119) hX (z := -1000003) (List.mem_of_getElem? (i := 4) rfl) (by decide +kernel) dX7_band_119 ?_
                      refine g_iret (pc := 121) hX hR dX7_band_121 ?_
                      try simp only [decide_eq_true_eq, decide_eq_false_iff_not] at c_44 c_77 c_93 c_106 c_116
                      exact (if_pos ((show (0 ≤ z ∧ z ≤ 3) ∧ (1 ≤ lm ∧ lm ≤ 100000) ∧ 0 ≤ p ∧ p ≤ 100000 by omega))).mpr ((if_neg (hno)).mpr ((if_pos (by omega)).mpr (⟨rfl, rfl⟩)))
                · skip
                  refine g_iconst (pc := 97) hX dX7_band_97 ?_
                  refine g_goto (pc := 98) (tgt := 102) hX dX7_band_98 (by decide) ?_
                  refine g_istore (pc := 102) hX (lv2 := [(5, vI (1)), (4, vI (k)), (0, .ref (gw_ad w 92)), (1, vI (z)), (2, vI (lm)), (3, vI (p))]) (by decide) rfl dX7_band_102 ?_
                  have hyes : mbx V z lm < V (24 + 14 * z) ∧ V (24 + 14 * z + 2 + 2 * mbx V z lm) = lm := by rw [← hkk]; omega
                  refine g_iload (pc := 104) hX 0 rfl dX7_band_104 ?_
                  refine g_if_ne (pc := 106) (tgt := 122) hX (by first | assumption | exact inI_mk (by omega) (by omega)) dX7_band_106 (by decide) (fun c_106 => ?_) (fun c_106 => ?_)
                  · skip
                    refine g_aload_n (pc := 122) hX 2 rfl dX7_band_122 ?_
                    refine g_callV0 (pc := 123) (ci := 7) (As := []) (st2 := []) hX 92 (by omega) m92 rfl (c_X7_act hN hm hpm) gX7_band_X7_act (n := 0) (hw := rfl) (hrc := rfl) (hrs := rfl) (hd := by decide +kernel) (hR := ⟨Nat.le_of_ble_eq_true rfl, Nat.le_of_ble_eq_true rfl⟩) (hn := rfl) (hst := rfl) (hsum := Nat.le_of_ble_eq_true rfl) (hdg := dX7_band_123) ?_
                    rintro S123 hP123
                    obtain ⟨⟨m123_92, m123_93, m123_94⟩, ⟨m123_95, m123_96⟩, ⟨m123_97, m123_98, m123_99, m123_100, m123_101⟩, ⟨m123_102, m123_103, m123_104⟩⟩ := hP123.1
                    refine g_at (pc2 := 126) rfl rfl (st2 := []) rfl (S2 := S123) rfl ?_
                    refine g_iload (pc := 126) hX 0 rfl dX7_band_126 ?_
                    refine g_if_ne (pc := 128) (tgt := 219) hX (by first | assumption | exact inI_mk (by omega) (by omega)) dX7_band_128 (by decide) (fun c_128 => ?_) (fun c_128 => ?_)
                    · skip
                      refine g_aload_n (pc := 219) hX 2 rfl dX7_band_219 ?_
                      refine g_get (pc := 220) hX (ci := 7) (fun _ h => List.mem_cons_of_mem _ (List.mem_append_right _ h)) rfl 92 (by omega) m123_92 0 (by decide) (List.mem_of_getElem? (i := 3) rfl) rfl (v := .ref (gw_ad w 93)) rfl dX7_band_220 ?_
                      refine g_iload_n (pc := 223) hX 3 rfl dX7_band_223 ?_
                      refine g_iload (pc := 224) hX 1 rfl dX7_band_224 ?_
                      refine g_callT1 (pc := 226) (As := [vI (z), vI (k)]) (st2 := [.ref (gw_ad w 93)]) hX (c_X7_placeOf (z := z) (k := k)) gX7_band_X7_placeOf (n := 2) (hw := rfl) (hrc := rfl) (hrs := rfl) (hd := by decide +kernel) (hR := ⟨Nat.le_of_ble_eq_true rfl, Nat.le_of_ble_eq_true rfl⟩) (hn := rfl) (hst := rfl) (hsum := Nat.le_of_ble_eq_true rfl) (hdg := dX7_band_226) ?_
                      rintro _ S9 ⟨rfl, e9⟩
                      rw [e9]
                      clear e9 S9
                      refine g_at (pc2 := 229) rfl rfl (st2 := [vI (24 + 14 * z + 2 + 2 * k), .ref (gw_ad w 93)]) rfl (S2 := S123) rfl ?_
                      refine g_iload_n (pc := 229) hX 4 rfl dX7_band_229 ?_
                      refine g_i2l (pc := 230) hX (by first | assumption | exact inI_mk (by omega) (by omega)) dX7_band_230 ?_
                      refine g_last (pc := 231) hX 93 (by omega) m123_93 (by omega) (by omega) (by decide) dX7_band_231 ?_
                      refine g_at rfl rfl rfl (S2 := (va_up S123 93 (AJ w 1200 (updZ (V) (24 + 14 * z + 2 + 2 * k) (lm))))) rfl ?_
                      refine g_aload_n (pc := 232) hX 2 rfl dX7_band_232 ?_
                      refine g_get (pc := 233) hX (ci := 7) (fun _ h => List.mem_cons_of_mem _ (List.mem_append_right _ h)) rfl 92 (by omega) (up_ne (by decide) m123_92) 0 (by decide) (List.mem_of_getElem? (i := 3) rfl) rfl (v := .ref (gw_ad w 93)) rfl dX7_band_233 ?_
                      refine g_iload_n (pc := 236) hX 3 rfl dX7_band_236 ?_
                      refine g_iload (pc := 237) hX 1 rfl dX7_band_237 ?_
                      refine g_callT1 (pc := 239) (As := [vI (z), vI (k)]) (st2 := [.ref (gw_ad w 93)]) hX (c_X7_placeOf (z := z) (k := k)) gX7_band_X7_placeOf (n := 2) (hw := rfl) (hrc := rfl) (hrs := rfl) (hd := by decide +kernel) (hR := ⟨Nat.le_of_ble_eq_true rfl, Nat.le_of_ble_eq_true rfl⟩) (hn := rfl) (hst := rfl) (hsum := Nat.le_of_ble_eq_true rfl) (hdg := dX7_band_239) ?_
                      rintro _ S9 ⟨rfl, e9⟩
                      rw [e9]
                      clear e9 S9
                      refine g_at (pc2 := 242) rfl rfl (st2 := [vI (24 + 14 * z + 2 + 2 * k), .ref (gw_ad w 93)]) rfl (S2 := (va_up S123 93 (AJ w 1200 (updZ (V) (24 + 14 * z + 2 + 2 * k) (lm))))) rfl ?_
                      refine g_iconst (pc := 242) hX dX7_band_242 ?_
                      refine g_iadd (pc := 243) hX dX7_band_243 ?_
                      refine g_iload_n (pc := 244) hX 5 rfl dX7_band_244 ?_
                      refine g_i2l (pc := 245) hX (by first | assumption | exact inI_mk (by omega) (by omega)) dX7_band_245 ?_
                      refine g_last (pc := 246) hX 93 (by omega) (up_eq _ _ _) (by omega) (by omega) (by decide) dX7_band_246 ?_
                      refine g_at rfl rfl rfl (S2 := (va_up (va_up S123 93 (AJ w 1200 (updZ (V) (24 + 14 * z + 2 + 2 * k) (lm)))) 93 (AJ w 1200 (updZ (updZ (V) (24 + 14 * z + 2 + 2 * k) (lm)) ((24 + 14 * z + 2 + 2 * k) + 1) (p))))) rfl ?_
                      refine g_iload (pc := 247) hX 1 rfl dX7_band_247 ?_
                      refine g_iret (pc := 249) hX hR dX7_band_249 ?_
                      try simp only [decide_eq_true_eq, decide_eq_false_iff_not] at c_44 c_77 c_93 c_106 c_128
                      subst hkk
                      exact (if_pos ((show (0 ≤ z ∧ z ≤ 3) ∧ (1 ≤ lm ∧ lm ≤ 100000) ∧ 0 ≤ p ∧ p ≤ 100000 by omega))).mpr ((if_pos (hyes)).mpr (⟨rfl, ⟨⟨⟨(up_ne (by decide) (up_ne (by decide) m123_92)), (up_eq _ _ _), (up_ne (by decide) (up_ne (by decide) m123_94))⟩, ⟨(up_ne (by decide) (up_ne (by decide) m123_95)), (up_ne (by decide) (up_ne (by decide) m123_96))⟩, ⟨(up_ne (by decide) (up_ne (by decide) m123_97)), (up_ne (by decide) (up_ne (by decide) m123_98)), (up_ne (by decide) (up_ne (by decide) m123_99)), (up_ne (by decide) (up_ne (by decide) m123_100)), (up_ne (by decide) (up_ne (by decide) m123_101))⟩, ⟨(up_ne (by decide) (up_ne (by decide) m123_102)), (up_ne (by decide) (up_ne (by decide) m123_103)), (up_ne (by decide) (up_ne (by decide) m123_104))⟩⟩, fun q hq => (up_ne (by omega) (up_ne (by omega) ((hP123.2 q hq).trans rfl)))⟩⟩))
                    · skip
                      exact absurd c_128 (by omega)
                  · skip
                    exact absurd c_106 (by omega)
            · skip
              refine g_aload_n (pc := 47) hX 1 rfl dX7_band_47 ?_
              refine g_get (pc := 48) hX (ci := 7) (fun _ h => List.mem_cons_of_mem _ (List.mem_append_right _ h)) rfl 92 (by omega) m92 0 (by decide) (List.mem_of_getElem? (i := 3) rfl) rfl (v := .ref (gw_ad w 93)) rfl dX7_band_48 ?_
              refine g_iload_n (pc := 51) hX 2 rfl dX7_band_51 ?_
              refine g_iload (pc := 52) hX 0 rfl dX7_band_52 ?_
              refine g_callT1 (pc := 54) (As := [vI (z), vI (k)]) (st2 := [.ref (gw_ad w 93)]) hX (c_X7_placeOf (z := z) (k := k)) gX7_band_X7_placeOf (n := 2) (hw := rfl) (hrc := rfl) (hrs := rfl) (hd := by decide +kernel) (hR := ⟨Nat.le_of_ble_eq_true rfl, Nat.le_of_ble_eq_true rfl⟩) (hn := rfl) (hst := rfl) (hsum := Nat.le_of_ble_eq_true rfl) (hdg := dX7_band_54) ?_
              rintro _ S9 ⟨rfl, e9⟩
              rw [e9]
              clear e9 S9
              refine g_at (pc2 := 57) rfl rfl (st2 := [vI (24 + 14 * z + 2 + 2 * k), .ref (gw_ad w 93)]) rfl (S2 := S) rfl ?_
              refine g_lald (pc := 57) hX 93 (by omega) m93 (by omega) (by omega) (by decide) dX7_band_57 ?_
              refine g_iload_n (pc := 58) hX 3 rfl dX7_band_58 ?_
              refine g_i2l (pc := 59) hX (by first | assumption | exact inI_mk (by omega) (by omega)) dX7_band_59 ?_
              refine g_lcmp_ge (pc := 60) (tgt := 70) hX (by first | assumption | exact inI_L (by assumption) | exact inL_mk (by omega) (by omega)) (by first | assumption | exact inI_L (by assumption) | exact inL_mk (by omega) (by omega)) dX7_band_60 dX7_band_61 (by decide) (fun c_60 => ?_) (fun c_60 => ?_)
              · skip
                rw [show (V (24 + 14 * z) - k).toNat = (V (24 + 14 * z) - (k + 1)).toNat + 1 by omega] at hb
                have hkk : k = mbx V z lm := by rw [← hb]; exact (if_pos (by omega)).symm
                refine g_iload (pc := 70) hX 0 rfl dX7_band_70 ?_
                refine g_aload_n (pc := 72) hX 1 rfl dX7_band_72 ?_
                refine g_iload_n (pc := 73) hX 2 rfl dX7_band_73 ?_
                refine g_callV1 (pc := 74) (ci := 7) (As := [vI (z)]) (st2 := [vI (k)]) hX 92 (by omega) m92 rfl (c_X7_bands hN hm (z := z) (by omega) (by omega)) gX7_band_X7_bands (n := 1) (hw := rfl) (hrc := rfl) (hrs := rfl) (hd := by decide +kernel) (hR := ⟨Nat.le_of_ble_eq_true rfl, Nat.le_of_ble_eq_true rfl⟩) (hn := rfl) (hst := rfl) (hsum := Nat.le_of_ble_eq_true rfl) (hdg := dX7_band_74) ?_
                rintro _ S9 ⟨rfl, e9⟩
                rw [e9]
                clear e9 S9
                refine g_at (pc2 := 77) rfl rfl (st2 := [vI (V (24 + 14 * z)), vI (k)]) rfl (S2 := S) rfl ?_
                refine g_icmp_ge (pc := 77) (tgt := 101) hX (by first | assumption | exact inI_mk (by omega) (by omega)) (by first | assumption | exact inI_mk (by omega) (by omega)) dX7_band_77 (by decide) (fun c_77 => ?_) (fun c_77 => ?_)
                · skip
                  refine g_iconst (pc := 101) hX dX7_band_101 ?_
                  refine g_istore (pc := 102) hX (lv2 := [(5, vI (0)), (4, vI (k)), (0, .ref (gw_ad w 92)), (1, vI (z)), (2, vI (lm)), (3, vI (p))]) (by decide) rfl dX7_band_102 ?_
                  have hno : ¬ (mbx V z lm < V (24 + 14 * z) ∧ V (24 + 14 * z + 2 + 2 * mbx V z lm) = lm) := by rw [← hkk]; omega
                  refine g_iload (pc := 104) hX 0 rfl dX7_band_104 ?_
                  refine g_if_ne (pc := 106) (tgt := 122) hX (by first | assumption | exact inI_mk (by omega) (by omega)) dX7_band_106 (by decide) (fun c_106 => ?_) (fun c_106 => ?_)
                  · skip
                    exact absurd c_106 (by omega)
                  · skip
                    refine g_aload_n (pc := 109) hX 2 rfl dX7_band_109 ?_
                    refine g_iload_n (pc := 110) hX 3 rfl dX7_band_110 ?_
                    refine g_callV1 (pc := 111) (ci := 7) (As := [vI (z)]) (st2 := []) hX 92 (by omega) m92 rfl (c_X7_bands hN hm (z := z) (by omega) (by omega)) gX7_band_X7_bands (n := 1) (hw := rfl) (hrc := rfl) (hrs := rfl) (hd := by decide +kernel) (hR := ⟨Nat.le_of_ble_eq_true rfl, Nat.le_of_ble_eq_true rfl⟩) (hn := rfl) (hst := rfl) (hsum := Nat.le_of_ble_eq_true rfl) (hdg := dX7_band_111) ?_
                    rintro _ S9 ⟨rfl, e9⟩
                    rw [e9]
                    clear e9 S9
                    refine g_at (pc2 := 114) rfl rfl (st2 := [vI (V (24 + 14 * z))]) rfl (S2 := S) rfl ?_
                    refine g_bipush (pc := 114) hX (by decide) dX7_band_114 ?_
                    refine g_icmp_ne (pc := 116) (tgt := 122) hX (by first | assumption | exact inI_mk (by omega) (by omega)) (by first | assumption | exact inI_mk (by omega) (by omega)) dX7_band_116 (by decide) (fun c_116 => ?_) (fun c_116 => ?_)
                    · skip
                      refine g_aload_n (pc := 122) hX 2 rfl dX7_band_122 ?_
                      refine g_callV0 (pc := 123) (ci := 7) (As := []) (st2 := []) hX 92 (by omega) m92 rfl (c_X7_act hN hm hpm) gX7_band_X7_act (n := 0) (hw := rfl) (hrc := rfl) (hrs := rfl) (hd := by decide +kernel) (hR := ⟨Nat.le_of_ble_eq_true rfl, Nat.le_of_ble_eq_true rfl⟩) (hn := rfl) (hst := rfl) (hsum := Nat.le_of_ble_eq_true rfl) (hdg := dX7_band_123) ?_
                      rintro S123 hP123
                      obtain ⟨⟨m123_92, m123_93, m123_94⟩, ⟨m123_95, m123_96⟩, ⟨m123_97, m123_98, m123_99, m123_100, m123_101⟩, ⟨m123_102, m123_103, m123_104⟩⟩ := hP123.1
                      refine g_at (pc2 := 126) rfl rfl (st2 := []) rfl (S2 := S123) rfl ?_
                      refine g_iload (pc := 126) hX 0 rfl dX7_band_126 ?_
                      refine g_if_ne (pc := 128) (tgt := 219) hX (by first | assumption | exact inI_mk (by omega) (by omega)) dX7_band_128 (by decide) (fun c_128 => ?_) (fun c_128 => ?_)
                      · skip
                        exact absurd c_128 (by omega)
                      · skip
                        refine g_aload_n (pc := 131) hX 2 rfl dX7_band_131 ?_
                        refine g_iload_n (pc := 132) hX 3 rfl dX7_band_132 ?_
                        refine g_callV1 (pc := 133) (ci := 7) (As := [vI (z)]) (st2 := []) hX 92 (by omega) m123_92 rfl (c_X7_bands hN (show modelAt w (actN pm) tm xm at_ wm wh ir V (actP pm PV V) TY TX MK MM CH AM WT WK FL PI S123 from ⟨⟨m123_92, m123_93, m123_94⟩, ⟨m123_95, m123_96⟩, ⟨m123_97, m123_98, m123_99, m123_100, m123_101⟩, ⟨m123_102, m123_103, m123_104⟩⟩) (z := z) (by omega) (by omega)) gX7_band_X7_bands (n := 1) (hw := rfl) (hrc := rfl) (hrs := rfl) (hd := by decide +kernel) (hR := ⟨Nat.le_of_ble_eq_true rfl, Nat.le_of_ble_eq_true rfl⟩) (hn := rfl) (hst := rfl) (hsum := Nat.le_of_ble_eq_true rfl) (hdg := dX7_band_133) ?_
                        rintro _ S9 ⟨rfl, e9⟩
                        rw [e9]
                        clear e9 S9
                        refine g_at (pc2 := 136) rfl rfl (st2 := [vI (V (24 + 14 * z))]) rfl (S2 := S123) rfl ?_
                        refine g_istore (pc := 136) hX (lv2 := [(6, vI (V (24 + 14 * z))), (5, vI (0)), (4, vI (k)), (0, .ref (gw_ad w 92)), (1, vI (z)), (2, vI (lm)), (3, vI (p))]) (by decide) rfl dX7_band_136 ?_
                        have ls : ∀ (n0 : Nat) (c : Int), 0 ≤ c → c ≤ V (24 + 14 * z) - k → V (24 + 14 * z) - k - c < n0 → G w { frames := 2, cells := 0, slots := 0, locals := 45 } X 7 138 [(6, vI (V (24 + 14 * z) - c)), (0, .ref (gw_ad w 92)), (1, vI (z)), (2, vI (lm)), (3, vI (p)), (4, vI (k)), (5, vI (0))] [] (va_up S123 93 (AJ w 1200 (mop V z (V (24 + 14 * z)) c))) := by
                          intro n0
                          induction n0 with
                          | zero => intro c  h1c h2c h3c; exact absurd h3c (by omega)
                          | succ n0 ihls =>
                            intro c  h1c h2c h3c 
                            have hc : inI c := inI_mk (by omega) (by omega)
                            refine g_iload (pc := 138) hX 0 rfl dX7_band_138 ?_
                            refine g_iload (pc := 140) hX 5 rfl dX7_band_140 ?_
                            refine g_icmp_le (pc := 142) (tgt := 203) hX (by first | assumption | exact inI_mk (by omega) (by omega)) (by first | assumption | exact inI_mk (by omega) (by omega)) dX7_band_142 (by decide) (fun c_142 => ?_) (fun c_142 => ?_)
                            · skip
                              have hc2 : c = V (24 + 14 * z) - k := by omega
                              refine g_aload_n (pc := 203) hX 1 rfl dX7_band_203 ?_
                              refine g_get (pc := 204) hX (ci := 7) (fun _ h => List.mem_cons_of_mem _ (List.mem_append_right _ h)) rfl 92 (by omega) (up_ne (by decide) m123_92) 0 (by decide) (List.mem_of_getElem? (i := 3) rfl) rfl (v := .ref (gw_ad w 93)) rfl dX7_band_204 ?_
                              refine g_bipush (pc := 207) hX (by decide) dX7_band_207 ?_
                              refine g_bipush (pc := 209) hX (by decide) dX7_band_209 ?_
                              refine g_iload_n (pc := 211) hX 2 rfl dX7_band_211 ?_
                              refine g_imul (pc := 212) hX dX7_band_212 ?_
                              refine g_iadd (pc := 213) hX dX7_band_213 ?_
                              refine g_dup2 (pc := 214) hX rfl rfl dX7_band_214 ?_
                              refine g_lald (pc := 215) hX 93 (by omega) (up_eq _ _ _) (by omega) (by omega) (by decide) dX7_band_215 ?_
                              refine g_at rfl rfl (st2 := [vL (V (24 + 14 * z)), vI (24 + (14 * z)), .ref (gw_ad w 93)]) (by rw [show (mop V z (V (24 + 14 * z)) c) (24 + (14 * z)) = V (24 + 14 * z) from if_neg (by omega)]) rfl ?_
                              refine g_lconst (pc := 216) hX (z := 1) rfl dX7_band_216 ?_
                              refine g_ladd (pc := 217) hX dX7_band_217 ?_
                              refine g_last (pc := 218) hX 93 (by omega) (up_eq _ _ _) (by omega) (by omega) (by decide) dX7_band_218 ?_
                              refine g_at rfl rfl rfl (S2 := (va_up (va_up S123 93 (AJ w 1200 (mop V z (V (24 + 14 * z)) c))) 93 (AJ w 1200 (updZ (mop V z (V (24 + 14 * z)) c) (24 + (14 * z)) ((V (24 + 14 * z)) + 1))))) rfl ?_
                              refine g_aload_n (pc := 219) hX 1 rfl dX7_band_219 ?_
                              refine g_get (pc := 220) hX (ci := 7) (fun _ h => List.mem_cons_of_mem _ (List.mem_append_right _ h)) rfl 92 (by omega) (up_ne (by decide) (up_ne (by decide) m123_92)) 0 (by decide) (List.mem_of_getElem? (i := 3) rfl) rfl (v := .ref (gw_ad w 93)) rfl dX7_band_220 ?_
                              refine g_iload_n (pc := 223) hX 2 rfl dX7_band_223 ?_
                              refine g_iload (pc := 224) hX 5 rfl dX7_band_224 ?_
                              refine g_callT1 (pc := 226) (As := [vI (z), vI (k)]) (st2 := [.ref (gw_ad w 93)]) hX (c_X7_placeOf (z := z) (k := k)) gX7_band_X7_placeOf (n := 2) (hw := rfl) (hrc := rfl) (hrs := rfl) (hd := by decide +kernel) (hR := ⟨Nat.le_of_ble_eq_true rfl, Nat.le_of_ble_eq_true rfl⟩) (hn := rfl) (hst := rfl) (hsum := Nat.le_of_ble_eq_true rfl) (hdg := dX7_band_226) ?_
                              rintro _ S9 ⟨rfl, e9⟩
                              rw [e9]
                              clear e9 S9
                              refine g_at (pc2 := 229) rfl rfl (st2 := [vI (24 + 14 * z + 2 + 2 * k), .ref (gw_ad w 93)]) rfl (S2 := (va_up (va_up S123 93 (AJ w 1200 (mop V z (V (24 + 14 * z)) c))) 93 (AJ w 1200 (updZ (mop V z (V (24 + 14 * z)) c) (24 + (14 * z)) ((V (24 + 14 * z)) + 1))))) rfl ?_
                              refine g_iload_n (pc := 229) hX 3 rfl dX7_band_229 ?_
                              refine g_i2l (pc := 230) hX (by first | assumption | exact inI_mk (by omega) (by omega)) dX7_band_230 ?_
                              refine g_last (pc := 231) hX 93 (by omega) (up_eq _ _ _) (by omega) (by omega) (by decide) dX7_band_231 ?_
                              refine g_at rfl rfl rfl (S2 := (va_up (va_up (va_up S123 93 (AJ w 1200 (mop V z (V (24 + 14 * z)) c))) 93 (AJ w 1200 (updZ (mop V z (V (24 + 14 * z)) c) (24 + (14 * z)) ((V (24 + 14 * z)) + 1)))) 93 (AJ w 1200 (updZ (updZ (mop V z (V (24 + 14 * z)) c) (24 + (14 * z)) ((V (24 + 14 * z)) + 1)) (24 + 14 * z + 2 + 2 * k) (lm))))) rfl ?_
                              refine g_aload_n (pc := 232) hX 1 rfl dX7_band_232 ?_
                              refine g_get (pc := 233) hX (ci := 7) (fun _ h => List.mem_cons_of_mem _ (List.mem_append_right _ h)) rfl 92 (by omega) (up_ne (by decide) (up_ne (by decide) (up_ne (by decide) m123_92))) 0 (by decide) (List.mem_of_getElem? (i := 3) rfl) rfl (v := .ref (gw_ad w 93)) rfl dX7_band_233 ?_
                              refine g_iload_n (pc := 236) hX 2 rfl dX7_band_236 ?_
                              refine g_iload (pc := 237) hX 5 rfl dX7_band_237 ?_
                              refine g_callT1 (pc := 239) (As := [vI (z), vI (k)]) (st2 := [.ref (gw_ad w 93)]) hX (c_X7_placeOf (z := z) (k := k)) gX7_band_X7_placeOf (n := 2) (hw := rfl) (hrc := rfl) (hrs := rfl) (hd := by decide +kernel) (hR := ⟨Nat.le_of_ble_eq_true rfl, Nat.le_of_ble_eq_true rfl⟩) (hn := rfl) (hst := rfl) (hsum := Nat.le_of_ble_eq_true rfl) (hdg := dX7_band_239) ?_
                              rintro _ S9 ⟨rfl, e9⟩
                              rw [e9]
                              clear e9 S9
                              refine g_at (pc2 := 242) rfl rfl (st2 := [vI (24 + 14 * z + 2 + 2 * k), .ref (gw_ad w 93)]) rfl (S2 := (va_up (va_up (va_up S123 93 (AJ w 1200 (mop V z (V (24 + 14 * z)) c))) 93 (AJ w 1200 (updZ (mop V z (V (24 + 14 * z)) c) (24 + (14 * z)) ((V (24 + 14 * z)) + 1)))) 93 (AJ w 1200 (updZ (updZ (mop V z (V (24 + 14 * z)) c) (24 + (14 * z)) ((V (24 + 14 * z)) + 1)) (24 + 14 * z + 2 + 2 * k) (lm))))) rfl ?_
                              refine g_iconst (pc := 242) hX dX7_band_242 ?_
                              refine g_iadd (pc := 243) hX dX7_band_243 ?_
                              refine g_iload_n (pc := 244) hX 4 rfl dX7_band_244 ?_
                              refine g_i2l (pc := 245) hX (by first | assumption | exact inI_mk (by omega) (by omega)) dX7_band_245 ?_
                              refine g_last (pc := 246) hX 93 (by omega) (up_eq _ _ _) (by omega) (by omega) (by decide) dX7_band_246 ?_
                              refine g_at rfl rfl rfl (S2 := (va_up (va_up (va_up (va_up S123 93 (AJ w 1200 (mop V z (V (24 + 14 * z)) c))) 93 (AJ w 1200 (updZ (mop V z (V (24 + 14 * z)) c) (24 + (14 * z)) ((V (24 + 14 * z)) + 1)))) 93 (AJ w 1200 (updZ (updZ (mop V z (V (24 + 14 * z)) c) (24 + (14 * z)) ((V (24 + 14 * z)) + 1)) (24 + 14 * z + 2 + 2 * k) (lm)))) 93 (AJ w 1200 (updZ (updZ (updZ (mop V z (V (24 + 14 * z)) c) (24 + (14 * z)) ((V (24 + 14 * z)) + 1)) (24 + 14 * z + 2 + 2 * k) (lm)) ((24 + 14 * z + 2 + 2 * k) + 1) (p))))) rfl ?_
                              refine g_iload (pc := 247) hX 5 rfl dX7_band_247 ?_
                              refine g_iret (pc := 249) hX hR dX7_band_249 ?_
                              try simp only [decide_eq_true_eq, decide_eq_false_iff_not] at c_142
                              subst hc2
                              subst hkk
                              exact (if_pos ((show (0 ≤ z ∧ z ≤ 3) ∧ (1 ≤ lm ∧ lm ≤ 100000) ∧ 0 ≤ p ∧ p ≤ 100000 by omega))).mpr ((if_neg (hno)).mpr ((if_neg (by omega)).mpr (⟨rfl, ⟨⟨⟨(up_ne (by decide) (up_ne (by decide) (up_ne (by decide) (up_ne (by decide) m123_92)))), (up_eq _ _ _), (up_ne (by decide) (up_ne (by decide) (up_ne (by decide) (up_ne (by decide) m123_94))))⟩, ⟨(up_ne (by decide) (up_ne (by decide) (up_ne (by decide) (up_ne (by decide) m123_95)))), (up_ne (by decide) (up_ne (by decide) (up_ne (by decide) (up_ne (by decide) m123_96))))⟩, ⟨(up_ne (by decide) (up_ne (by decide) (up_ne (by decide) (up_ne (by decide) m123_97)))), (up_ne (by decide) (up_ne (by decide) (up_ne (by decide) (up_ne (by decide) m123_98)))), (up_ne (by decide) (up_ne (by decide) (up_ne (by decide) (up_ne (by decide) m123_99)))), (up_ne (by decide) (up_ne (by decide) (up_ne (by decide) (up_ne (by decide) m123_100)))), (up_ne (by decide) (up_ne (by decide) (up_ne (by decide) (up_ne (by decide) m123_101))))⟩, ⟨(up_ne (by decide) (up_ne (by decide) (up_ne (by decide) (up_ne (by decide) m123_102)))), (up_ne (by decide) (up_ne (by decide) (up_ne (by decide) (up_ne (by decide) m123_103)))), (up_ne (by decide) (up_ne (by decide) (up_ne (by decide) (up_ne (by decide) m123_104))))⟩⟩, fun q hq => (up_ne (by omega) (up_ne (by omega) (up_ne (by omega) (up_ne (by omega) ((hP123.2 q hq).trans rfl)))))⟩⟩)))
                            · skip
                              refine g_aload_n (pc := 145) hX 1 rfl dX7_band_145 ?_
                              refine g_get (pc := 146) hX (ci := 7) (fun _ h => List.mem_cons_of_mem _ (List.mem_append_right _ h)) rfl 92 (by omega) (up_ne (by decide) m123_92) 0 (by decide) (List.mem_of_getElem? (i := 3) rfl) rfl (v := .ref (gw_ad w 93)) rfl dX7_band_146 ?_
                              refine g_iload_n (pc := 149) hX 2 rfl dX7_band_149 ?_
                              refine g_iload (pc := 150) hX 0 rfl dX7_band_150 ?_
                              refine g_callT1 (pc := 152) (As := [vI (z), vI (V (24 + 14 * z) - c)]) (st2 := [.ref (gw_ad w 93)]) hX (c_X7_placeOf (z := z) (k := V (24 + 14 * z) - c)) gX7_band_X7_placeOf (n := 2) (hw := rfl) (hrc := rfl) (hrs := rfl) (hd := by decide +kernel) (hR := ⟨Nat.le_of_ble_eq_true rfl, Nat.le_of_ble_eq_true rfl⟩) (hn := rfl) (hst := rfl) (hsum := Nat.le_of_ble_eq_true rfl) (hdg := dX7_band_152) ?_
                              rintro _ S9 ⟨rfl, e9⟩
                              rw [e9]
                              clear e9 S9
                              refine g_at (pc2 := 155) rfl rfl (st2 := [vI (24 + 14 * z + 2 + 2 * (V (24 + 14 * z) - c)), .ref (gw_ad w 93)]) rfl (S2 := (va_up S123 93 (AJ w 1200 (mop V z (V (24 + 14 * z)) c)))) rfl ?_
                              refine g_aload_n (pc := 155) hX 1 rfl dX7_band_155 ?_
                              refine g_get (pc := 156) hX (ci := 7) (fun _ h => List.mem_cons_of_mem _ (List.mem_append_right _ h)) rfl 92 (by omega) (up_ne (by decide) m123_92) 0 (by decide) (List.mem_of_getElem? (i := 3) rfl) rfl (v := .ref (gw_ad w 93)) rfl dX7_band_156 ?_
                              refine g_iload_n (pc := 159) hX 2 rfl dX7_band_159 ?_
                              refine g_iload (pc := 160) hX 0 rfl dX7_band_160 ?_
                              refine g_iconst (pc := 162) hX dX7_band_162 ?_
                              refine g_isub (pc := 163) hX dX7_band_163 ?_
                              refine g_callT1 (pc := 164) (As := [vI (z), vI ((V (24 + 14 * z) - c) - 1)]) (st2 := [.ref (gw_ad w 93), vI (24 + 14 * z + 2 + 2 * (V (24 + 14 * z) - c)), .ref (gw_ad w 93)]) hX (c_X7_placeOf (z := z) (k := (V (24 + 14 * z) - c) - 1)) gX7_band_X7_placeOf (n := 2) (hw := rfl) (hrc := rfl) (hrs := rfl) (hd := by decide +kernel) (hR := ⟨Nat.le_of_ble_eq_true rfl, Nat.le_of_ble_eq_true rfl⟩) (hn := rfl) (hst := rfl) (hsum := Nat.le_of_ble_eq_true rfl) (hdg := dX7_band_164) ?_
                              rintro _ S9 ⟨rfl, e9⟩
                              rw [e9]
                              clear e9 S9
                              refine g_at (pc2 := 167) rfl rfl (st2 := [vI (24 + 14 * z + 2 + 2 * ((V (24 + 14 * z) - c) - 1)), .ref (gw_ad w 93), vI (24 + 14 * z + 2 + 2 * (V (24 + 14 * z) - c)), .ref (gw_ad w 93)]) rfl (S2 := (va_up S123 93 (AJ w 1200 (mop V z (V (24 + 14 * z)) c)))) rfl ?_
                              refine g_lald (pc := 167) hX 93 (by omega) (up_eq _ _ _) (by omega) (by omega) (by decide) dX7_band_167 ?_
                              refine g_last (pc := 168) hX 93 (by omega) (up_eq _ _ _) (by omega) (by omega) (by decide) dX7_band_168 ?_
                              refine g_at rfl rfl rfl (S2 := (va_up (va_up S123 93 (AJ w 1200 (mop V z (V (24 + 14 * z)) c))) 93 (AJ w 1200 (updZ (mop V z (V (24 + 14 * z)) c) (24 + 14 * z + 2 + 2 * (V (24 + 14 * z) - c)) ((mop V z (V (24 + 14 * z)) c) (24 + 14 * z + 2 + 2 * ((V (24 + 14 * z) - c) - 1))))))) rfl ?_
                              refine g_aload_n (pc := 169) hX 1 rfl dX7_band_169 ?_
                              refine g_get (pc := 170) hX (ci := 7) (fun _ h => List.mem_cons_of_mem _ (List.mem_append_right _ h)) rfl 92 (by omega) (up_ne (by decide) (up_ne (by decide) m123_92)) 0 (by decide) (List.mem_of_getElem? (i := 3) rfl) rfl (v := .ref (gw_ad w 93)) rfl dX7_band_170 ?_
                              refine g_iload_n (pc := 173) hX 2 rfl dX7_band_173 ?_
                              refine g_iload (pc := 174) hX 0 rfl dX7_band_174 ?_
                              refine g_callT1 (pc := 176) (As := [vI (z), vI (V (24 + 14 * z) - c)]) (st2 := [.ref (gw_ad w 93)]) hX (c_X7_placeOf (z := z) (k := V (24 + 14 * z) - c)) gX7_band_X7_placeOf (n := 2) (hw := rfl) (hrc := rfl) (hrs := rfl) (hd := by decide +kernel) (hR := ⟨Nat.le_of_ble_eq_true rfl, Nat.le_of_ble_eq_true rfl⟩) (hn := rfl) (hst := rfl) (hsum := Nat.le_of_ble_eq_true rfl) (hdg := dX7_band_176) ?_
                              rintro _ S9 ⟨rfl, e9⟩
                              rw [e9]
                              clear e9 S9
                              refine g_at (pc2 := 179) rfl rfl (st2 := [vI (24 + 14 * z + 2 + 2 * (V (24 + 14 * z) - c)), .ref (gw_ad w 93)]) rfl (S2 := (va_up (va_up S123 93 (AJ w 1200 (mop V z (V (24 + 14 * z)) c))) 93 (AJ w 1200 (updZ (mop V z (V (24 + 14 * z)) c) (24 + 14 * z + 2 + 2 * (V (24 + 14 * z) - c)) ((mop V z (V (24 + 14 * z)) c) (24 + 14 * z + 2 + 2 * ((V (24 + 14 * z) - c) - 1))))))) rfl ?_
                              refine g_iconst (pc := 179) hX dX7_band_179 ?_
                              refine g_iadd (pc := 180) hX dX7_band_180 ?_
                              refine g_aload_n (pc := 181) hX 1 rfl dX7_band_181 ?_
                              refine g_get (pc := 182) hX (ci := 7) (fun _ h => List.mem_cons_of_mem _ (List.mem_append_right _ h)) rfl 92 (by omega) (up_ne (by decide) (up_ne (by decide) m123_92)) 0 (by decide) (List.mem_of_getElem? (i := 3) rfl) rfl (v := .ref (gw_ad w 93)) rfl dX7_band_182 ?_
                              refine g_iload_n (pc := 185) hX 2 rfl dX7_band_185 ?_
                              refine g_iload (pc := 186) hX 0 rfl dX7_band_186 ?_
                              refine g_iconst (pc := 188) hX dX7_band_188 ?_
                              refine g_isub (pc := 189) hX dX7_band_189 ?_
                              refine g_callT1 (pc := 190) (As := [vI (z), vI ((V (24 + 14 * z) - c) - 1)]) (st2 := [.ref (gw_ad w 93), vI ((24 + 14 * z + 2 + 2 * (V (24 + 14 * z) - c)) + 1), .ref (gw_ad w 93)]) hX (c_X7_placeOf (z := z) (k := (V (24 + 14 * z) - c) - 1)) gX7_band_X7_placeOf (n := 2) (hw := rfl) (hrc := rfl) (hrs := rfl) (hd := by decide +kernel) (hR := ⟨Nat.le_of_ble_eq_true rfl, Nat.le_of_ble_eq_true rfl⟩) (hn := rfl) (hst := rfl) (hsum := Nat.le_of_ble_eq_true rfl) (hdg := dX7_band_190) ?_
                              rintro _ S9 ⟨rfl, e9⟩
                              rw [e9]
                              clear e9 S9
                              refine g_at (pc2 := 193) rfl rfl (st2 := [vI (24 + 14 * z + 2 + 2 * ((V (24 + 14 * z) - c) - 1)), .ref (gw_ad w 93), vI ((24 + 14 * z + 2 + 2 * (V (24 + 14 * z) - c)) + 1), .ref (gw_ad w 93)]) rfl (S2 := (va_up (va_up S123 93 (AJ w 1200 (mop V z (V (24 + 14 * z)) c))) 93 (AJ w 1200 (updZ (mop V z (V (24 + 14 * z)) c) (24 + 14 * z + 2 + 2 * (V (24 + 14 * z) - c)) ((mop V z (V (24 + 14 * z)) c) (24 + 14 * z + 2 + 2 * ((V (24 + 14 * z) - c) - 1))))))) rfl ?_
                              refine g_iconst (pc := 193) hX dX7_band_193 ?_
                              refine g_iadd (pc := 194) hX dX7_band_194 ?_
                              refine g_lald (pc := 195) hX 93 (by omega) (up_eq _ _ _) (by omega) (by omega) (by decide) dX7_band_195 ?_
                              refine g_last (pc := 196) hX 93 (by omega) (up_eq _ _ _) (by omega) (by omega) (by decide) dX7_band_196 ?_
                              refine g_at rfl rfl rfl (S2 := (va_up (va_up (va_up S123 93 (AJ w 1200 (mop V z (V (24 + 14 * z)) c))) 93 (AJ w 1200 (updZ (mop V z (V (24 + 14 * z)) c) (24 + 14 * z + 2 + 2 * (V (24 + 14 * z) - c)) ((mop V z (V (24 + 14 * z)) c) (24 + 14 * z + 2 + 2 * ((V (24 + 14 * z) - c) - 1)))))) 93 (AJ w 1200 (updZ (updZ (mop V z (V (24 + 14 * z)) c) (24 + 14 * z + 2 + 2 * (V (24 + 14 * z) - c)) ((mop V z (V (24 + 14 * z)) c) (24 + 14 * z + 2 + 2 * ((V (24 + 14 * z) - c) - 1)))) ((24 + 14 * z + 2 + 2 * (V (24 + 14 * z) - c)) + 1) ((updZ (mop V z (V (24 + 14 * z)) c) (24 + 14 * z + 2 + 2 * (V (24 + 14 * z) - c)) ((mop V z (V (24 + 14 * z)) c) (24 + 14 * z + 2 + 2 * ((V (24 + 14 * z) - c) - 1)))) ((24 + 14 * z + 2 + 2 * ((V (24 + 14 * z) - c) - 1)) + 1)))))) rfl ?_
                              refine g_iinc (pc := 197) hX (lv2 := [(6, vI (V (24 + 14 * z) - c + (-1))), (0, .ref (gw_ad w 92)), (1, vI (z)), (2, vI (lm)), (3, vI (p)), (4, vI (k)), (5, vI (0))]) 0 rfl (by decide) rfl dX7_band_197 ?_
                              refine g_goto (pc := 200) (tgt := 138) hX dX7_band_200 (by decide) ?_
                              refine g_sub (lv2 := [(6, vI (V (24 + 14 * z) - c + (-1))), (0, .ref (gw_ad w 92)), (1, vI (z)), (2, vI (lm)), (3, vI (p)), (4, vI (k)), (5, vI (0))]) [0, 1, 2, 3, 4, 5, 6] rfl ?_
                              refine g_at rfl (lv2 := [(6, vI (V (24 + 14 * z) - (c + 1))), (0, .ref (gw_ad w 92)), (1, vI (z)), (2, vI (lm)), (3, vI (p)), (4, vI (k)), (5, vI (0))]) (by rw [show V (24 + 14 * z) - c + -1 = V (24 + 14 * z) - (c + 1) by omega]) rfl (S2 := (va_up S123 93 (AJ w 1200 (mop V z (V (24 + 14 * z)) (c + 1))))) (by rw [up_up, up_up, mop_s h1c]) ?_
                              exact ihls (c + 1)  (by omega) (by omega) (by omega) 
                        refine g_sub (lv2 := [(6, vI (V (24 + 14 * z))), (0, .ref (gw_ad w 92)), (1, vI (z)), (2, vI (lm)), (3, vI (p)), (4, vI (k)), (5, vI (0))]) [0, 3, 4, 5, 6, 2, 1] rfl ?_
                        refine g_at rfl (lv2 := [(6, vI (V (24 + 14 * z) - 0)), (0, .ref (gw_ad w 92)), (1, vI (z)), (2, vI (lm)), (3, vI (p)), (4, vI (k)), (5, vI (0))]) (by rw [Int.sub_zero]) rfl (S2 := (va_up S123 93 (AJ w 1200 (mop V z (V (24 + 14 * z)) 0)))) (by rw [mop_0, up_self (f := S123) m123_93]) ?_
                        exact ls ((V (24 + 14 * z) - k : Int) - 0 + 1).toNat 0  (by omega) (by omega) (by omega) 
                    · skip
                      refine g_ldc (pc := 119) hX (z := -1000003) (List.mem_of_getElem? (i := 4) rfl) (by decide +kernel) dX7_band_119 ?_
                      refine g_iret (pc := 121) hX hR dX7_band_121 ?_
                      try simp only [decide_eq_true_eq, decide_eq_false_iff_not] at c_44 c_60 c_77 c_106 c_116
                      exact (if_pos ((show (0 ≤ z ∧ z ≤ 3) ∧ (1 ≤ lm ∧ lm ≤ 100000) ∧ 0 ≤ p ∧ p ≤ 100000 by omega))).mpr ((if_neg (hno)).mpr ((if_pos (by omega)).mpr (⟨rfl, rfl⟩)))
                · skip
                  refine g_aload_n (pc := 80) hX 1 rfl dX7_band_80 ?_
                  refine g_get (pc := 81) hX (ci := 7) (fun _ h => List.mem_cons_of_mem _ (List.mem_append_right _ h)) rfl 92 (by omega) m92 0 (by decide) (List.mem_of_getElem? (i := 3) rfl) rfl (v := .ref (gw_ad w 93)) rfl dX7_band_81 ?_
                  refine g_iload_n (pc := 84) hX 2 rfl dX7_band_84 ?_
                  refine g_iload (pc := 85) hX 0 rfl dX7_band_85 ?_
                  refine g_callT1 (pc := 87) (As := [vI (z), vI (k)]) (st2 := [.ref (gw_ad w 93)]) hX (c_X7_placeOf (z := z) (k := k)) gX7_band_X7_placeOf (n := 2) (hw := rfl) (hrc := rfl) (hrs := rfl) (hd := by decide +kernel) (hR := ⟨Nat.le_of_ble_eq_true rfl, Nat.le_of_ble_eq_true rfl⟩) (hn := rfl) (hst := rfl) (hsum := Nat.le_of_ble_eq_true rfl) (hdg := dX7_band_87) ?_
                  rintro _ S9 ⟨rfl, e9⟩
                  rw [e9]
                  clear e9 S9
                  refine g_at (pc2 := 90) rfl rfl (st2 := [vI (24 + 14 * z + 2 + 2 * k), .ref (gw_ad w 93)]) rfl (S2 := S) rfl ?_
                  refine g_lald (pc := 90) hX 93 (by omega) m93 (by omega) (by omega) (by decide) dX7_band_90 ?_
                  refine g_iload_n (pc := 91) hX 3 rfl dX7_band_91 ?_
                  refine g_i2l (pc := 92) hX (by first | assumption | exact inI_mk (by omega) (by omega)) dX7_band_92 ?_
                  refine g_lcmp_ne (pc := 93) (tgt := 101) hX (by first | assumption | exact inI_L (by assumption) | exact inL_mk (by omega) (by omega)) (by first | assumption | exact inI_L (by assumption) | exact inL_mk (by omega) (by omega)) dX7_band_93 dX7_band_94 (by decide) (fun c_93 => ?_) (fun c_93 => ?_)
                  · skip
                    refine g_iconst (pc := 101) hX dX7_band_101 ?_
                    refine g_istore (pc := 102) hX (lv2 := [(5, vI (0)), (4, vI (k)), (0, .ref (gw_ad w 92)), (1, vI (z)), (2, vI (lm)), (3, vI (p))]) (by decide) rfl dX7_band_102 ?_
                    have hno : ¬ (mbx V z lm < V (24 + 14 * z) ∧ V (24 + 14 * z + 2 + 2 * mbx V z lm) = lm) := by rw [← hkk]; omega
                    refine g_iload (pc := 104) hX 0 rfl dX7_band_104 ?_
                    refine g_if_ne (pc := 106) (tgt := 122) hX (by first | assumption | exact inI_mk (by omega) (by omega)) dX7_band_106 (by decide) (fun c_106 => ?_) (fun c_106 => ?_)
                    · skip
                      exact absurd c_106 (by omega)
                    · skip
                      refine g_aload_n (pc := 109) hX 2 rfl dX7_band_109 ?_
                      refine g_iload_n (pc := 110) hX 3 rfl dX7_band_110 ?_
                      refine g_callV1 (pc := 111) (ci := 7) (As := [vI (z)]) (st2 := []) hX 92 (by omega) m92 rfl (c_X7_bands hN hm (z := z) (by omega) (by omega)) gX7_band_X7_bands (n := 1) (hw := rfl) (hrc := rfl) (hrs := rfl) (hd := by decide +kernel) (hR := ⟨Nat.le_of_ble_eq_true rfl, Nat.le_of_ble_eq_true rfl⟩) (hn := rfl) (hst := rfl) (hsum := Nat.le_of_ble_eq_true rfl) (hdg := dX7_band_111) ?_
                      rintro _ S9 ⟨rfl, e9⟩
                      rw [e9]
                      clear e9 S9
                      refine g_at (pc2 := 114) rfl rfl (st2 := [vI (V (24 + 14 * z))]) rfl (S2 := S) rfl ?_
                      refine g_bipush (pc := 114) hX (by decide) dX7_band_114 ?_
                      refine g_icmp_ne (pc := 116) (tgt := 122) hX (by first | assumption | exact inI_mk (by omega) (by omega)) (by first | assumption | exact inI_mk (by omega) (by omega)) dX7_band_116 (by decide) (fun c_116 => ?_) (fun c_116 => ?_)
                      · skip
                        refine g_aload_n (pc := 122) hX 2 rfl dX7_band_122 ?_
                        refine g_callV0 (pc := 123) (ci := 7) (As := []) (st2 := []) hX 92 (by omega) m92 rfl (c_X7_act hN hm hpm) gX7_band_X7_act (n := 0) (hw := rfl) (hrc := rfl) (hrs := rfl) (hd := by decide +kernel) (hR := ⟨Nat.le_of_ble_eq_true rfl, Nat.le_of_ble_eq_true rfl⟩) (hn := rfl) (hst := rfl) (hsum := Nat.le_of_ble_eq_true rfl) (hdg := dX7_band_123) ?_
                        rintro S123 hP123
                        obtain ⟨⟨m123_92, m123_93, m123_94⟩, ⟨m123_95, m123_96⟩, ⟨m123_97, m123_98, m123_99, m123_100, m123_101⟩, ⟨m123_102, m123_103, m123_104⟩⟩ := hP123.1
                        refine g_at (pc2 := 126) rfl rfl (st2 := []) rfl (S2 := S123) rfl ?_
                        refine g_iload (pc := 126) hX 0 rfl dX7_band_126 ?_
                        refine g_if_ne (pc := 128) (tgt := 219) hX (by first | assumption | exact inI_mk (by omega) (by omega)) dX7_band_128 (by decide) (fun c_128 => ?_) (fun c_128 => ?_)
                        · skip
                          exact absurd c_128 (by omega)
                        · skip
                          refine g_aload_n (pc := 131) hX 2 rfl dX7_band_131 ?_
                          refine g_iload_n (pc := 132) hX 3 rfl dX7_band_132 ?_
                          refine g_callV1 (pc := 133) (ci := 7) (As := [vI (z)]) (st2 := []) hX 92 (by omega) m123_92 rfl (c_X7_bands hN (show modelAt w (actN pm) tm xm at_ wm wh ir V (actP pm PV V) TY TX MK MM CH AM WT WK FL PI S123 from ⟨⟨m123_92, m123_93, m123_94⟩, ⟨m123_95, m123_96⟩, ⟨m123_97, m123_98, m123_99, m123_100, m123_101⟩, ⟨m123_102, m123_103, m123_104⟩⟩) (z := z) (by omega) (by omega)) gX7_band_X7_bands (n := 1) (hw := rfl) (hrc := rfl) (hrs := rfl) (hd := by decide +kernel) (hR := ⟨Nat.le_of_ble_eq_true rfl, Nat.le_of_ble_eq_true rfl⟩) (hn := rfl) (hst := rfl) (hsum := Nat.le_of_ble_eq_true rfl) (hdg := dX7_band_133) ?_
                          rintro _ S9 ⟨rfl, e9⟩
                          rw [e9]
                          clear e9 S9
                          refine g_at (pc2 := 136) rfl rfl (st2 := [vI (V (24 + 14 * z))]) rfl (S2 := S123) rfl ?_
                          refine g_istore (pc := 136) hX (lv2 := [(6, vI (V (24 + 14 * z))), (5, vI (0)), (4, vI (k)), (0, .ref (gw_ad w 92)), (1, vI (z)), (2, vI (lm)), (3, vI (p))]) (by decide) rfl dX7_band_136 ?_
                          have ls : ∀ (n0 : Nat) (c : Int), 0 ≤ c → c ≤ V (24 + 14 * z) - k → V (24 + 14 * z) - k - c < n0 → G w { frames := 2, cells := 0, slots := 0, locals := 45 } X 7 138 [(6, vI (V (24 + 14 * z) - c)), (0, .ref (gw_ad w 92)), (1, vI (z)), (2, vI (lm)), (3, vI (p)), (4, vI (k)), (5, vI (0))] [] (va_up S123 93 (AJ w 1200 (mop V z (V (24 + 14 * z)) c))) := by
                            intro n0
                            induction n0 with
                            | zero => intro c  h1c h2c h3c; exact absurd h3c (by omega)
                            | succ n0 ihls =>
                              intro c  h1c h2c h3c 
                              have hc : inI c := inI_mk (by omega) (by omega)
                              refine g_iload (pc := 138) hX 0 rfl dX7_band_138 ?_
                              refine g_iload (pc := 140) hX 5 rfl dX7_band_140 ?_
                              refine g_icmp_le (pc := 142) (tgt := 203) hX (by first | assumption | exact inI_mk (by omega) (by omega)) (by first | assumption | exact inI_mk (by omega) (by omega)) dX7_band_142 (by decide) (fun c_142 => ?_) (fun c_142 => ?_)
                              · skip
                                have hc2 : c = V (24 + 14 * z) - k := by omega
                                refine g_aload_n (pc := 203) hX 1 rfl dX7_band_203 ?_
                                refine g_get (pc := 204) hX (ci := 7) (fun _ h => List.mem_cons_of_mem _ (List.mem_append_right _ h)) rfl 92 (by omega) (up_ne (by decide) m123_92) 0 (by decide) (List.mem_of_getElem? (i := 3) rfl) rfl (v := .ref (gw_ad w 93)) rfl dX7_band_204 ?_
                                refine g_bipush (pc := 207) hX (by decide) dX7_band_207 ?_
                                refine g_bipush (pc := 209) hX (by decide) dX7_band_209 ?_
                                refine g_iload_n (pc := 211) hX 2 rfl dX7_band_211 ?_
                                refine g_imul (pc := 212) hX dX7_band_212 ?_
                                refine g_iadd (pc := 213) hX dX7_band_213 ?_
                                refine g_dup2 (pc := 214) hX rfl rfl dX7_band_214 ?_
                                refine g_lald (pc := 215) hX 93 (by omega) (up_eq _ _ _) (by omega) (by omega) (by decide) dX7_band_215 ?_
                                refine g_at rfl rfl (st2 := [vL (V (24 + 14 * z)), vI (24 + (14 * z)), .ref (gw_ad w 93)]) (by rw [show (mop V z (V (24 + 14 * z)) c) (24 + (14 * z)) = V (24 + 14 * z) from if_neg (by omega)]) rfl ?_
                                refine g_lconst (pc := 216) hX (z := 1) rfl dX7_band_216 ?_
                                refine g_ladd (pc := 217) hX dX7_band_217 ?_
                                refine g_last (pc := 218) hX 93 (by omega) (up_eq _ _ _) (by omega) (by omega) (by decide) dX7_band_218 ?_
                                refine g_at rfl rfl rfl (S2 := (va_up (va_up S123 93 (AJ w 1200 (mop V z (V (24 + 14 * z)) c))) 93 (AJ w 1200 (updZ (mop V z (V (24 + 14 * z)) c) (24 + (14 * z)) ((V (24 + 14 * z)) + 1))))) rfl ?_
                                refine g_aload_n (pc := 219) hX 1 rfl dX7_band_219 ?_
                                refine g_get (pc := 220) hX (ci := 7) (fun _ h => List.mem_cons_of_mem _ (List.mem_append_right _ h)) rfl 92 (by omega) (up_ne (by decide) (up_ne (by decide) m123_92)) 0 (by decide) (List.mem_of_getElem? (i := 3) rfl) rfl (v := .ref (gw_ad w 93)) rfl dX7_band_220 ?_
                                refine g_iload_n (pc := 223) hX 2 rfl dX7_band_223 ?_
                                refine g_iload (pc := 224) hX 5 rfl dX7_band_224 ?_
                                refine g_callT1 (pc := 226) (As := [vI (z), vI (k)]) (st2 := [.ref (gw_ad w 93)]) hX (c_X7_placeOf (z := z) (k := k)) gX7_band_X7_placeOf (n := 2) (hw := rfl) (hrc := rfl) (hrs := rfl) (hd := by decide +kernel) (hR := ⟨Nat.le_of_ble_eq_true rfl, Nat.le_of_ble_eq_true rfl⟩) (hn := rfl) (hst := rfl) (hsum := Nat.le_of_ble_eq_true rfl) (hdg := dX7_band_226) ?_
                                rintro _ S9 ⟨rfl, e9⟩
                                rw [e9]
                                clear e9 S9
                                refine g_at (pc2 := 229) rfl rfl (st2 := [vI (24 + 14 * z + 2 + 2 * k), .ref (gw_ad w 93)]) rfl (S2 := (va_up (va_up S123 93 (AJ w 1200 (mop V z (V (24 + 14 * z)) c))) 93 (AJ w 1200 (updZ (mop V z (V (24 + 14 * z)) c) (24 + (14 * z)) ((V (24 + 14 * z)) + 1))))) rfl ?_
                                refine g_iload_n (pc := 229) hX 3 rfl dX7_band_229 ?_
                                refine g_i2l (pc := 230) hX (by first | assumption | exact inI_mk (by omega) (by omega)) dX7_band_230 ?_
                                refine g_last (pc := 231) hX 93 (by omega) (up_eq _ _ _) (by omega) (by omega) (by decide) dX7_band_231 ?_
                                refine g_at rfl rfl rfl (S2 := (va_up (va_up (va_up S123 93 (AJ w 1200 (mop V z (V (24 + 14 * z)) c))) 93 (AJ w 1200 (updZ (mop V z (V (24 + 14 * z)) c) (24 + (14 * z)) ((V (24 + 14 * z)) + 1)))) 93 (AJ w 1200 (updZ (updZ (mop V z (V (24 + 14 * z)) c) (24 + (14 * z)) ((V (24 + 14 * z)) + 1)) (24 + 14 * z + 2 + 2 * k) (lm))))) rfl ?_
                                refine g_aload_n (pc := 232) hX 1 rfl dX7_band_232 ?_
                                refine g_get (pc := 233) hX (ci := 7) (fun _ h => List.mem_cons_of_mem _ (List.mem_append_right _ h)) rfl 92 (by omega) (up_ne (by decide) (up_ne (by decide) (up_ne (by decide) m123_92))) 0 (by decide) (List.mem_of_getElem? (i := 3) rfl) rfl (v := .ref (gw_ad w 93)) rfl dX7_band_233 ?_
                                refine g_iload_n (pc := 236) hX 2 rfl dX7_band_236 ?_
                                refine g_iload (pc := 237) hX 5 rfl dX7_band_237 ?_
                                refine g_callT1 (pc := 239) (As := [vI (z), vI (k)]) (st2 := [.ref (gw_ad w 93)]) hX (c_X7_placeOf (z := z) (k := k)) gX7_band_X7_placeOf (n := 2) (hw := rfl) (hrc := rfl) (hrs := rfl) (hd := by decide +kernel) (hR := ⟨Nat.le_of_ble_eq_true rfl, Nat.le_of_ble_eq_true rfl⟩) (hn := rfl) (hst := rfl) (hsum := Nat.le_of_ble_eq_true rfl) (hdg := dX7_band_239) ?_
                                rintro _ S9 ⟨rfl, e9⟩
                                rw [e9]
                                clear e9 S9
                                refine g_at (pc2 := 242) rfl rfl (st2 := [vI (24 + 14 * z + 2 + 2 * k), .ref (gw_ad w 93)]) rfl (S2 := (va_up (va_up (va_up S123 93 (AJ w 1200 (mop V z (V (24 + 14 * z)) c))) 93 (AJ w 1200 (updZ (mop V z (V (24 + 14 * z)) c) (24 + (14 * z)) ((V (24 + 14 * z)) + 1)))) 93 (AJ w 1200 (updZ (updZ (mop V z (V (24 + 14 * z)) c) (24 + (14 * z)) ((V (24 + 14 * z)) + 1)) (24 + 14 * z + 2 + 2 * k) (lm))))) rfl ?_
                                refine g_iconst (pc := 242) hX dX7_band_242 ?_
                                refine g_iadd (pc := 243) hX dX7_band_243 ?_
                                refine g_iload_n (pc := 244) hX 4 rfl dX7_band_244 ?_
                                refine g_i2l (pc := 245) hX (by first | assumption | exact inI_mk (by omega) (by omega)) dX7_band_245 ?_
                                refine g_last (pc := 246) hX 93 (by omega) (up_eq _ _ _) (by omega) (by omega) (by decide) dX7_band_246 ?_
                                refine g_at rfl rfl rfl (S2 := (va_up (va_up (va_up (va_up S123 93 (AJ w 1200 (mop V z (V (24 + 14 * z)) c))) 93 (AJ w 1200 (updZ (mop V z (V (24 + 14 * z)) c) (24 + (14 * z)) ((V (24 + 14 * z)) + 1)))) 93 (AJ w 1200 (updZ (updZ (mop V z (V (24 + 14 * z)) c) (24 + (14 * z)) ((V (24 + 14 * z)) + 1)) (24 + 14 * z + 2 + 2 * k) (lm)))) 93 (AJ w 1200 (updZ (updZ (updZ (mop V z (V (24 + 14 * z)) c) (24 + (14 * z)) ((V (24 + 14 * z)) + 1)) (24 + 14 * z + 2 + 2 * k) (lm)) ((24 + 14 * z + 2 + 2 * k) + 1) (p))))) rfl ?_
                                refine g_iload (pc := 247) hX 5 rfl dX7_band_247 ?_
                                refine g_iret (pc := 249) hX hR dX7_band_249 ?_
                                try simp only [decide_eq_true_eq, decide_eq_false_iff_not] at c_142
                                subst hc2
                                subst hkk
                                exact (if_pos ((show (0 ≤ z ∧ z ≤ 3) ∧ (1 ≤ lm ∧ lm ≤ 100000) ∧ 0 ≤ p ∧ p ≤ 100000 by omega))).mpr ((if_neg (hno)).mpr ((if_neg (by omega)).mpr (⟨rfl, ⟨⟨⟨(up_ne (by decide) (up_ne (by decide) (up_ne (by decide) (up_ne (by decide) m123_92)))), (up_eq _ _ _), (up_ne (by decide) (up_ne (by decide) (up_ne (by decide) (up_ne (by decide) m123_94))))⟩, ⟨(up_ne (by decide) (up_ne (by decide) (up_ne (by decide) (up_ne (by decide) m123_95)))), (up_ne (by decide) (up_ne (by decide) (up_ne (by decide) (up_ne (by decide) m123_96))))⟩, ⟨(up_ne (by decide) (up_ne (by decide) (up_ne (by decide) (up_ne (by decide) m123_97)))), (up_ne (by decide) (up_ne (by decide) (up_ne (by decide) (up_ne (by decide) m123_98)))), (up_ne (by decide) (up_ne (by decide) (up_ne (by decide) (up_ne (by decide) m123_99)))), (up_ne (by decide) (up_ne (by decide) (up_ne (by decide) (up_ne (by decide) m123_100)))), (up_ne (by decide) (up_ne (by decide) (up_ne (by decide) (up_ne (by decide) m123_101))))⟩, ⟨(up_ne (by decide) (up_ne (by decide) (up_ne (by decide) (up_ne (by decide) m123_102)))), (up_ne (by decide) (up_ne (by decide) (up_ne (by decide) (up_ne (by decide) m123_103)))), (up_ne (by decide) (up_ne (by decide) (up_ne (by decide) (up_ne (by decide) m123_104))))⟩⟩, fun q hq => (up_ne (by omega) (up_ne (by omega) (up_ne (by omega) (up_ne (by omega) ((hP123.2 q hq).trans rfl)))))⟩⟩)))
                              · skip
                                refine g_aload_n (pc := 145) hX 1 rfl dX7_band_145 ?_
                                refine g_get (pc := 146) hX (ci := 7) (fun _ h => List.mem_cons_of_mem _ (List.mem_append_right _ h)) rfl 92 (by omega) (up_ne (by decide) m123_92) 0 (by decide) (List.mem_of_getElem? (i := 3) rfl) rfl (v := .ref (gw_ad w 93)) rfl dX7_band_146 ?_
                                refine g_iload_n (pc := 149) hX 2 rfl dX7_band_149 ?_
                                refine g_iload (pc := 150) hX 0 rfl dX7_band_150 ?_
                                refine g_callT1 (pc := 152) (As := [vI (z), vI (V (24 + 14 * z) - c)]) (st2 := [.ref (gw_ad w 93)]) hX (c_X7_placeOf (z := z) (k := V (24 + 14 * z) - c)) gX7_band_X7_placeOf (n := 2) (hw := rfl) (hrc := rfl) (hrs := rfl) (hd := by decide +kernel) (hR := ⟨Nat.le_of_ble_eq_true rfl, Nat.le_of_ble_eq_true rfl⟩) (hn := rfl) (hst := rfl) (hsum := Nat.le_of_ble_eq_true rfl) (hdg := dX7_band_152) ?_
                                rintro _ S9 ⟨rfl, e9⟩
                                rw [e9]
                                clear e9 S9
                                refine g_at (pc2 := 155) rfl rfl (st2 := [vI (24 + 14 * z + 2 + 2 * (V (24 + 14 * z) - c)), .ref (gw_ad w 93)]) rfl (S2 := (va_up S123 93 (AJ w 1200 (mop V z (V (24 + 14 * z)) c)))) rfl ?_
                                refine g_aload_n (pc := 155) hX 1 rfl dX7_band_155 ?_
                                refine g_get (pc := 156) hX (ci := 7) (fun _ h => List.mem_cons_of_mem _ (List.mem_append_right _ h)) rfl 92 (by omega) (up_ne (by decide) m123_92) 0 (by decide) (List.mem_of_getElem? (i := 3) rfl) rfl (v := .ref (gw_ad w 93)) rfl dX7_band_156 ?_
                                refine g_iload_n (pc := 159) hX 2 rfl dX7_band_159 ?_
                                refine g_iload (pc := 160) hX 0 rfl dX7_band_160 ?_
                                refine g_iconst (pc := 162) hX dX7_band_162 ?_
                                refine g_isub (pc := 163) hX dX7_band_163 ?_
                                refine g_callT1 (pc := 164) (As := [vI (z), vI ((V (24 + 14 * z) - c) - 1)]) (st2 := [.ref (gw_ad w 93), vI (24 + 14 * z + 2 + 2 * (V (24 + 14 * z) - c)), .ref (gw_ad w 93)]) hX (c_X7_placeOf (z := z) (k := (V (24 + 14 * z) - c) - 1)) gX7_band_X7_placeOf (n := 2) (hw := rfl) (hrc := rfl) (hrs := rfl) (hd := by decide +kernel) (hR := ⟨Nat.le_of_ble_eq_true rfl, Nat.le_of_ble_eq_true rfl⟩) (hn := rfl) (hst := rfl) (hsum := Nat.le_of_ble_eq_true rfl) (hdg := dX7_band_164) ?_
                                rintro _ S9 ⟨rfl, e9⟩
                                rw [e9]
                                clear e9 S9
                                refine g_at (pc2 := 167) rfl rfl (st2 := [vI (24 + 14 * z + 2 + 2 * ((V (24 + 14 * z) - c) - 1)), .ref (gw_ad w 93), vI (24 + 14 * z + 2 + 2 * (V (24 + 14 * z) - c)), .ref (gw_ad w 93)]) rfl (S2 := (va_up S123 93 (AJ w 1200 (mop V z (V (24 + 14 * z)) c)))) rfl ?_
                                refine g_lald (pc := 167) hX 93 (by omega) (up_eq _ _ _) (by omega) (by omega) (by decide) dX7_band_167 ?_
                                refine g_last (pc := 168) hX 93 (by omega) (up_eq _ _ _) (by omega) (by omega) (by decide) dX7_band_168 ?_
                                refine g_at rfl rfl rfl (S2 := (va_up (va_up S123 93 (AJ w 1200 (mop V z (V (24 + 14 * z)) c))) 93 (AJ w 1200 (updZ (mop V z (V (24 + 14 * z)) c) (24 + 14 * z + 2 + 2 * (V (24 + 14 * z) - c)) ((mop V z (V (24 + 14 * z)) c) (24 + 14 * z + 2 + 2 * ((V (24 + 14 * z) - c) - 1))))))) rfl ?_
                                refine g_aload_n (pc := 169) hX 1 rfl dX7_band_169 ?_
                                refine g_get (pc := 170) hX (ci := 7) (fun _ h => List.mem_cons_of_mem _ (List.mem_append_right _ h)) rfl 92 (by omega) (up_ne (by decide) (up_ne (by decide) m123_92)) 0 (by decide) (List.mem_of_getElem? (i := 3) rfl) rfl (v := .ref (gw_ad w 93)) rfl dX7_band_170 ?_
                                refine g_iload_n (pc := 173) hX 2 rfl dX7_band_173 ?_
                                refine g_iload (pc := 174) hX 0 rfl dX7_band_174 ?_
                                refine g_callT1 (pc := 176) (As := [vI (z), vI (V (24 + 14 * z) - c)]) (st2 := [.ref (gw_ad w 93)]) hX (c_X7_placeOf (z := z) (k := V (24 + 14 * z) - c)) gX7_band_X7_placeOf (n := 2) (hw := rfl) (hrc := rfl) (hrs := rfl) (hd := by decide +kernel) (hR := ⟨Nat.le_of_ble_eq_true rfl, Nat.le_of_ble_eq_true rfl⟩) (hn := rfl) (hst := rfl) (hsum := Nat.le_of_ble_eq_true rfl) (hdg := dX7_band_176) ?_
                                rintro _ S9 ⟨rfl, e9⟩
                                rw [e9]
                                clear e9 S9
                                refine g_at (pc2 := 179) rfl rfl (st2 := [vI (24 + 14 * z + 2 + 2 * (V (24 + 14 * z) - c)), .ref (gw_ad w 93)]) rfl (S2 := (va_up (va_up S123 93 (AJ w 1200 (mop V z (V (24 + 14 * z)) c))) 93 (AJ w 1200 (updZ (mop V z (V (24 + 14 * z)) c) (24 + 14 * z + 2 + 2 * (V (24 + 14 * z) - c)) ((mop V z (V (24 + 14 * z)) c) (24 + 14 * z + 2 + 2 * ((V (24 + 14 * z) - c) - 1))))))) rfl ?_
                                refine g_iconst (pc := 179) hX dX7_band_179 ?_
                                refine g_iadd (pc := 180) hX dX7_band_180 ?_
                                refine g_aload_n (pc := 181) hX 1 rfl dX7_band_181 ?_
                                refine g_get (pc := 182) hX (ci := 7) (fun _ h => List.mem_cons_of_mem _ (List.mem_append_right _ h)) rfl 92 (by omega) (up_ne (by decide) (up_ne (by decide) m123_92)) 0 (by decide) (List.mem_of_getElem? (i := 3) rfl) rfl (v := .ref (gw_ad w 93)) rfl dX7_band_182 ?_
                                refine g_iload_n (pc := 185) hX 2 rfl dX7_band_185 ?_
                                refine g_iload (pc := 186) hX 0 rfl dX7_band_186 ?_
                                refine g_iconst (pc := 188) hX dX7_band_188 ?_
                                refine g_isub (pc := 189) hX dX7_band_189 ?_
                                refine g_callT1 (pc := 190) (As := [vI (z), vI ((V (24 + 14 * z) - c) - 1)]) (st2 := [.ref (gw_ad w 93), vI ((24 + 14 * z + 2 + 2 * (V (24 + 14 * z) - c)) + 1), .ref (gw_ad w 93)]) hX (c_X7_placeOf (z := z) (k := (V (24 + 14 * z) - c) - 1)) gX7_band_X7_placeOf (n := 2) (hw := rfl) (hrc := rfl) (hrs := rfl) (hd := by decide +kernel) (hR := ⟨Nat.le_of_ble_eq_true rfl, Nat.le_of_ble_eq_true rfl⟩) (hn := rfl) (hst := rfl) (hsum := Nat.le_of_ble_eq_true rfl) (hdg := dX7_band_190) ?_
                                rintro _ S9 ⟨rfl, e9⟩
                                rw [e9]
                                clear e9 S9
                                refine g_at (pc2 := 193) rfl rfl (st2 := [vI (24 + 14 * z + 2 + 2 * ((V (24 + 14 * z) - c) - 1)), .ref (gw_ad w 93), vI ((24 + 14 * z + 2 + 2 * (V (24 + 14 * z) - c)) + 1), .ref (gw_ad w 93)]) rfl (S2 := (va_up (va_up S123 93 (AJ w 1200 (mop V z (V (24 + 14 * z)) c))) 93 (AJ w 1200 (updZ (mop V z (V (24 + 14 * z)) c) (24 + 14 * z + 2 + 2 * (V (24 + 14 * z) - c)) ((mop V z (V (24 + 14 * z)) c) (24 + 14 * z + 2 + 2 * ((V (24 + 14 * z) - c) - 1))))))) rfl ?_
                                refine g_iconst (pc := 193) hX dX7_band_193 ?_
                                refine g_iadd (pc := 194) hX dX7_band_194 ?_
                                refine g_lald (pc := 195) hX 93 (by omega) (up_eq _ _ _) (by omega) (by omega) (by decide) dX7_band_195 ?_
                                refine g_last (pc := 196) hX 93 (by omega) (up_eq _ _ _) (by omega) (by omega) (by decide) dX7_band_196 ?_
                                refine g_at rfl rfl rfl (S2 := (va_up (va_up (va_up S123 93 (AJ w 1200 (mop V z (V (24 + 14 * z)) c))) 93 (AJ w 1200 (updZ (mop V z (V (24 + 14 * z)) c) (24 + 14 * z + 2 + 2 * (V (24 + 14 * z) - c)) ((mop V z (V (24 + 14 * z)) c) (24 + 14 * z + 2 + 2 * ((V (24 + 14 * z) - c) - 1)))))) 93 (AJ w 1200 (updZ (updZ (mop V z (V (24 + 14 * z)) c) (24 + 14 * z + 2 + 2 * (V (24 + 14 * z) - c)) ((mop V z (V (24 + 14 * z)) c) (24 + 14 * z + 2 + 2 * ((V (24 + 14 * z) - c) - 1)))) ((24 + 14 * z + 2 + 2 * (V (24 + 14 * z) - c)) + 1) ((updZ (mop V z (V (24 + 14 * z)) c) (24 + 14 * z + 2 + 2 * (V (24 + 14 * z) - c)) ((mop V z (V (24 + 14 * z)) c) (24 + 14 * z + 2 + 2 * ((V (24 + 14 * z) - c) - 1)))) ((24 + 14 * z + 2 + 2 * ((V (24 + 14 * z) - c) - 1)) + 1)))))) rfl ?_
                                refine g_iinc (pc := 197) hX (lv2 := [(6, vI (V (24 + 14 * z) - c + (-1))), (0, .ref (gw_ad w 92)), (1, vI (z)), (2, vI (lm)), (3, vI (p)), (4, vI (k)), (5, vI (0))]) 0 rfl (by decide) rfl dX7_band_197 ?_
                                refine g_goto (pc := 200) (tgt := 138) hX dX7_band_200 (by decide) ?_
                                refine g_sub (lv2 := [(6, vI (V (24 + 14 * z) - c + (-1))), (0, .ref (gw_ad w 92)), (1, vI (z)), (2, vI (lm)), (3, vI (p)), (4, vI (k)), (5, vI (0))]) [0, 1, 2, 3, 4, 5, 6] rfl ?_
                                refine g_at rfl (lv2 := [(6, vI (V (24 + 14 * z) - (c + 1))), (0, .ref (gw_ad w 92)), (1, vI (z)), (2, vI (lm)), (3, vI (p)), (4, vI (k)), (5, vI (0))]) (by rw [show V (24 + 14 * z) - c + -1 = V (24 + 14 * z) - (c + 1) by omega]) rfl (S2 := (va_up S123 93 (AJ w 1200 (mop V z (V (24 + 14 * z)) (c + 1))))) (by rw [up_up, up_up, mop_s h1c]) ?_
                                exact ihls (c + 1)  (by omega) (by omega) (by omega) 
                          refine g_sub (lv2 := [(6, vI (V (24 + 14 * z))), (0, .ref (gw_ad w 92)), (1, vI (z)), (2, vI (lm)), (3, vI (p)), (4, vI (k)), (5, vI (0))]) [0, 3, 4, 5, 6, 2, 1] rfl ?_
                          refine g_at rfl (lv2 := [(6, vI (V (24 + 14 * z) - 0)), (0, .ref (gw_ad w 92)), (1, vI (z)), (2, vI (lm)), (3, vI (p)), (4, vI (k)), (5, vI (0))]) (by rw [Int.sub_zero]) rfl (S2 := (va_up S123 93 (AJ w 1200 (mop V z (V (24 + 14 * z)) 0)))) (by rw [mop_0, up_self (f := S123) m123_93]) ?_
                          exact ls ((V (24 + 14 * z) - k : Int) - 0 + 1).toNat 0  (by omega) (by omega) (by omega) 
                      · skip
                        refine g_ldc (pc := 119) hX (z := -1000003) (List.mem_of_getElem? (i := 4) rfl) (by decide +kernel) dX7_band_119 ?_
                        refine g_iret (pc := 121) hX hR dX7_band_121 ?_
                        try simp only [decide_eq_true_eq, decide_eq_false_iff_not] at c_44 c_60 c_77 c_93 c_106 c_116
                        exact (if_pos ((show (0 ≤ z ∧ z ≤ 3) ∧ (1 ≤ lm ∧ lm ≤ 100000) ∧ 0 ≤ p ∧ p ≤ 100000 by omega))).mpr ((if_neg (hno)).mpr ((if_pos (by omega)).mpr (⟨rfl, rfl⟩)))
                  · skip
                    refine g_iconst (pc := 97) hX dX7_band_97 ?_
                    refine g_goto (pc := 98) (tgt := 102) hX dX7_band_98 (by decide) ?_
                    refine g_istore (pc := 102) hX (lv2 := [(5, vI (1)), (4, vI (k)), (0, .ref (gw_ad w 92)), (1, vI (z)), (2, vI (lm)), (3, vI (p))]) (by decide) rfl dX7_band_102 ?_
                    have hyes : mbx V z lm < V (24 + 14 * z) ∧ V (24 + 14 * z + 2 + 2 * mbx V z lm) = lm := by rw [← hkk]; omega
                    refine g_iload (pc := 104) hX 0 rfl dX7_band_104 ?_
                    refine g_if_ne (pc := 106) (tgt := 122) hX (by first | assumption | exact inI_mk (by omega) (by omega)) dX7_band_106 (by decide) (fun c_106 => ?_) (fun c_106 => ?_)
                    · skip
                      refine g_aload_n (pc := 122) hX 2 rfl dX7_band_122 ?_
                      refine g_callV0 (pc := 123) (ci := 7) (As := []) (st2 := []) hX 92 (by omega) m92 rfl (c_X7_act hN hm hpm) gX7_band_X7_act (n := 0) (hw := rfl) (hrc := rfl) (hrs := rfl) (hd := by decide +kernel) (hR := ⟨Nat.le_of_ble_eq_true rfl, Nat.le_of_ble_eq_true rfl⟩) (hn := rfl) (hst := rfl) (hsum := Nat.le_of_ble_eq_true rfl) (hdg := dX7_band_123) ?_
                      rintro S123 hP123
                      obtain ⟨⟨m123_92, m123_93, m123_94⟩, ⟨m123_95, m123_96⟩, ⟨m123_97, m123_98, m123_99, m123_100, m123_101⟩, ⟨m123_102, m123_103, m123_104⟩⟩ := hP123.1
                      refine g_at (pc2 := 126) rfl rfl (st2 := []) rfl (S2 := S123) rfl ?_
                      refine g_iload (pc := 126) hX 0 rfl dX7_band_126 ?_
                      refine g_if_ne (pc := 128) (tgt := 219) hX (by first | assumption | exact inI_mk (by omega) (by omega)) dX7_band_128 (by decide) (fun c_128 => ?_) (fun c_128 => ?_)
                      · skip
                        refine g_aload_n (pc := 219) hX 2 rfl dX7_band_219 ?_
                        refine g_get (pc := 220) hX (ci := 7) (fun _ h => List.mem_cons_of_mem _ (List.mem_append_right _ h)) rfl 92 (by omega) m123_92 0 (by decide) (List.mem_of_getElem? (i := 3) rfl) rfl (v := .ref (gw_ad w 93)) rfl dX7_band_220 ?_
                        refine g_iload_n (pc := 223) hX 3 rfl dX7_band_223 ?_
                        refine g_iload (pc := 224) hX 1 rfl dX7_band_224 ?_
                        refine g_callT1 (pc := 226) (As := [vI (z), vI (k)]) (st2 := [.ref (gw_ad w 93)]) hX (c_X7_placeOf (z := z) (k := k)) gX7_band_X7_placeOf (n := 2) (hw := rfl) (hrc := rfl) (hrs := rfl) (hd := by decide +kernel) (hR := ⟨Nat.le_of_ble_eq_true rfl, Nat.le_of_ble_eq_true rfl⟩) (hn := rfl) (hst := rfl) (hsum := Nat.le_of_ble_eq_true rfl) (hdg := dX7_band_226) ?_
                        rintro _ S9 ⟨rfl, e9⟩
                        rw [e9]
                        clear e9 S9
                        refine g_at (pc2 := 229) rfl rfl (st2 := [vI (24 + 14 * z + 2 + 2 * k), .ref (gw_ad w 93)]) rfl (S2 := S123) rfl ?_
                        refine g_iload_n (pc := 229) hX 4 rfl dX7_band_229 ?_
                        refine g_i2l (pc := 230) hX (by first | assumption | exact inI_mk (by omega) (by omega)) dX7_band_230 ?_
                        refine g_last (pc := 231) hX 93 (by omega) m123_93 (by omega) (by omega) (by decide) dX7_band_231 ?_
                        refine g_at rfl rfl rfl (S2 := (va_up S123 93 (AJ w 1200 (updZ (V) (24 + 14 * z + 2 + 2 * k) (lm))))) rfl ?_
                        refine g_aload_n (pc := 232) hX 2 rfl dX7_band_232 ?_
                        refine g_get (pc := 233) hX (ci := 7) (fun _ h => List.mem_cons_of_mem _ (List.mem_append_right _ h)) rfl 92 (by omega) (up_ne (by decide) m123_92) 0 (by decide) (List.mem_of_getElem? (i := 3) rfl) rfl (v := .ref (gw_ad w 93)) rfl dX7_band_233 ?_
                        refine g_iload_n (pc := 236) hX 3 rfl dX7_band_236 ?_
                        refine g_iload (pc := 237) hX 1 rfl dX7_band_237 ?_
                        refine g_callT1 (pc := 239) (As := [vI (z), vI (k)]) (st2 := [.ref (gw_ad w 93)]) hX (c_X7_placeOf (z := z) (k := k)) gX7_band_X7_placeOf (n := 2) (hw := rfl) (hrc := rfl) (hrs := rfl) (hd := by decide +kernel) (hR := ⟨Nat.le_of_ble_eq_true rfl, Nat.le_of_ble_eq_true rfl⟩) (hn := rfl) (hst := rfl) (hsum := Nat.le_of_ble_eq_true rfl) (hdg := dX7_band_239) ?_
                        rintro _ S9 ⟨rfl, e9⟩
                        rw [e9]
                        clear e9 S9
                        refine g_at (pc2 := 242) rfl rfl (st2 := [vI (24 + 14 * z + 2 + 2 * k), .ref (gw_ad w 93)]) rfl (S2 := (va_up S123 93 (AJ w 1200 (updZ (V) (24 + 14 * z + 2 + 2 * k) (lm))))) rfl ?_
                        refine g_iconst (pc := 242) hX dX7_band_242 ?_
                        refine g_iadd (pc := 243) hX dX7_band_243 ?_
                        refine g_iload_n (pc := 244) hX 5 rfl dX7_band_244 ?_
                        refine g_i2l (pc := 245) hX (by first | assumption | exact inI_mk (by omega) (by omega)) dX7_band_245 ?_
                        refine g_last (pc := 246) hX 93 (by omega) (up_eq _ _ _) (by omega) (by omega) (by decide) dX7_band_246 ?_
                        refine g_at rfl rfl rfl (S2 := (va_up (va_up S123 93 (AJ w 1200 (updZ (V) (24 + 14 * z + 2 + 2 * k) (lm)))) 93 (AJ w 1200 (updZ (updZ (V) (24 + 14 * z + 2 + 2 * k) (lm)) ((24 + 14 * z + 2 + 2 * k) + 1) (p))))) rfl ?_
                        refine g_iload (pc := 247) hX 1 rfl dX7_band_247 ?_
                        refine g_iret (pc := 249) hX hR dX7_band_249 ?_
                        try simp only [decide_eq_true_eq, decide_eq_false_iff_not] at c_44 c_60 c_77 c_93 c_106 c_128
                        subst hkk
                        exact (if_pos ((show (0 ≤ z ∧ z ≤ 3) ∧ (1 ≤ lm ∧ lm ≤ 100000) ∧ 0 ≤ p ∧ p ≤ 100000 by omega))).mpr ((if_pos (hyes)).mpr (⟨rfl, ⟨⟨⟨(up_ne (by decide) (up_ne (by decide) m123_92)), (up_eq _ _ _), (up_ne (by decide) (up_ne (by decide) m123_94))⟩, ⟨(up_ne (by decide) (up_ne (by decide) m123_95)), (up_ne (by decide) (up_ne (by decide) m123_96))⟩, ⟨(up_ne (by decide) (up_ne (by decide) m123_97)), (up_ne (by decide) (up_ne (by decide) m123_98)), (up_ne (by decide) (up_ne (by decide) m123_99)), (up_ne (by decide) (up_ne (by decide) m123_100)), (up_ne (by decide) (up_ne (by decide) m123_101))⟩, ⟨(up_ne (by decide) (up_ne (by decide) m123_102)), (up_ne (by decide) (up_ne (by decide) m123_103)), (up_ne (by decide) (up_ne (by decide) m123_104))⟩⟩, fun q hq => (up_ne (by omega) (up_ne (by omega) ((hP123.2 q hq).trans rfl)))⟩⟩))
                      · skip
                        exact absurd c_128 (by omega)
                    · skip
                      exact absurd c_106 (by omega)
              · skip
                refine g_iinc (pc := 64) hX (lv2 := [(4, vI (k + 1)), (0, .ref (gw_ad w 92)), (1, vI (z)), (2, vI (lm)), (3, vI (p))]) 0 rfl (by decide) rfl dX7_band_64 ?_
                refine g_goto (pc := 67) (tgt := 37) hX dX7_band_67 (by decide) ?_
                refine g_sub (lv2 := [(4, vI (k + 1)), (0, .ref (gw_ad w 92)), (1, vI (z)), (2, vI (lm)), (3, vI (p))]) [0, 1, 2, 3, 4] rfl ?_
                refine g_at rfl (lv2 := [(4, vI (k + 1)), (0, .ref (gw_ad w 92)), (1, vI (z)), (2, vI (lm)), (3, vI (p))]) (rfl) rfl (S2 := S) (rfl) ?_
                exact ihlk (k + 1)  (by omega) (by omega) (by omega) (by rw [show (V (24 + 14 * z) - k).toNat = (V (24 + 14 * z) - (k + 1)).toNat + 1 by omega] at hb; rw [← hb]; exact (if_neg (show ¬ lm ≤ V (24 + 14 * z + 2 + 2 * k) by omega)).symm)
        refine g_sub (lv2 := [(4, vI (0)), (0, .ref (gw_ad w 92)), (1, vI (z)), (2, vI (lm)), (3, vI (p))]) [0, 1, 2, 3, 4] rfl ?_
        refine g_at rfl (lv2 := [(4, vI (0)), (0, .ref (gw_ad w 92)), (1, vI (z)), (2, vI (lm)), (3, vI (p))]) (rfl) rfl (S2 := S) (rfl) ?_
        exact lk ((V (24 + 14 * z) : Int) - 0 + 1).toNat 0  (by omega) (by omega) (by omega) (by rw [Int.sub_zero]; rfl)
      · skip
        refine g_ldc (pc := 31) hX (z := -1000001) (List.mem_of_getElem? (i := 2) rfl) (by decide +kernel) dX7_band_31 ?_
        refine g_iret (pc := 33) hX hR dX7_band_33 ?_
        try simp only [decide_eq_true_eq, decide_eq_false_iff_not] at c_4 c_16 c_28
        exact (if_neg (by omega)).mpr (⟨rfl, rfl⟩)

set_option maxHeartbeats 4000000 in
set_option maxRecDepth 100000 in
theorem c_X7_unband {w : gW} {l : Launch} {S : Nat → va_E} {pm tm xm at_ wm wh : Int} {ir : Bool} {V PV TY TX MK MM CH AM WT WK FL PI : Int → Int} (hN : gw_N w = 105) (hm : modelAt w pm tm xm at_ wm wh ir V PV TY TX MK MM CH AM WT WK FL PI S) (hB : vBnd V) (hL : vLim V) (hpm : 0 ≤ pm ∧ pm ≤ 4) {z i : Int} (hz : inI z) (hi : inI i) :
    GM1 w l yX7_unband wsX7_unband { frames := 2, cells := 0, slots := 0, locals := 45 } [.ref (gw_ad w 92), vI (z), vI (i)] S
      (fun v S' => if (0 ≤ z ∧ z ≤ 3) ∧ 0 ≤ i ∧ i ≤ V (24 + 14 * z) - 1 then v = vI (V (24 + 14 * z) - 1) ∧ POSTM w S (actN pm) tm xm at_ wm wh ir (mcl (updZ V (24 + 14 * z) (V (24 + 14 * z) - 1)) z i (V (24 + 14 * z) - 1)) (actP pm PV V) TY TX MK MM CH AM WT WK FL PI S' else v = vI (-1000001) ∧ S' = S) := by
  refine GM.start (own := RX7) (n := "unband") (d := "(II)I") (by decide) rfl (Nat.le_of_ble_eq_true rfl) ?_
  intro X hX hR hXl
  subst hXl
  refine g_at rfl (lv2 := [(0, .ref (gw_ad w 92)), (1, vI (z)), (2, vI (i))]) rfl rfl rfl ?_
  obtain ⟨⟨m92, m93, m94⟩, ⟨m95, m96⟩, ⟨m97, m98, m99, m100, m101⟩, ⟨m102, m103, m104⟩⟩ := (id hm)
  refine g_iload_n (pc := 0) hX 1 rfl dX7_unband_0 ?_
  refine g_callT1 (pc := 1) (As := [vI (z)]) (st2 := []) hX (c_X7_isZone (z := z) (by first | assumption | exact inI_mk (by omega) (by omega))) gX7_unband_X7_isZone (n := 1) (hw := rfl) (hrc := rfl) (hrs := rfl) (hd := by decide +kernel) (hR := ⟨Nat.le_of_ble_eq_true rfl, Nat.le_of_ble_eq_true rfl⟩) (hn := rfl) (hst := rfl) (hsum := Nat.le_of_ble_eq_true rfl) (hdg := dX7_unband_1) ?_
  rintro _ S9 ⟨rfl, e9⟩
  rw [e9]
  clear e9 S9
  refine g_at (pc2 := 4) rfl rfl (st2 := [vI (bz (decide (0 ≤ z ∧ z ≤ 3)))]) rfl (S2 := S) rfl ?_
  refine g_bif_eq (pc := 4) (tgt := 24) hX dX7_unband_4 (by decide) (fun c_4 => ?_) (fun c_4 => ?_)
  · skip
    refine g_ldc (pc := 24) hX (z := -1000001) (List.mem_of_getElem? (i := 1) rfl) (by decide +kernel) dX7_unband_24 ?_
    refine g_iret (pc := 26) hX hR dX7_unband_26 ?_
    try simp only [decide_eq_true_eq, decide_eq_false_iff_not] at c_4
    exact (if_neg (by omega)).mpr (⟨rfl, rfl⟩)
  · skip
    have hz1 := of_decide_eq_true c_4
    have hBz := hB z (by omega) (by omega)
    refine g_iload_n (pc := 7) hX 2 rfl dX7_unband_7 ?_
    refine g_i2l (pc := 8) hX (by first | assumption | exact inI_mk (by omega) (by omega)) dX7_unband_8 ?_
    refine g_lconst (pc := 9) hX (z := 0) rfl dX7_unband_9 ?_
    refine g_aload_n (pc := 10) hX 0 rfl dX7_unband_10 ?_
    refine g_iload_n (pc := 11) hX 1 rfl dX7_unband_11 ?_
    refine g_callV1 (pc := 12) (ci := 7) (As := [vI (z)]) (st2 := [vL (0), vL (i)]) hX 92 (by omega) m92 rfl (c_X7_bands hN hm (z := z) (by omega) (by omega)) gX7_unband_X7_bands (n := 1) (hw := rfl) (hrc := rfl) (hrs := rfl) (hd := by decide +kernel) (hR := ⟨Nat.le_of_ble_eq_true rfl, Nat.le_of_ble_eq_true rfl⟩) (hn := rfl) (hst := rfl) (hsum := Nat.le_of_ble_eq_true rfl) (hdg := dX7_unband_12) ?_
    rintro _ S9 ⟨rfl, e9⟩
    rw [e9]
    clear e9 S9
    refine g_at (pc2 := 15) rfl rfl (st2 := [vI (V (24 + 14 * z)), vL (0), vL (i)]) rfl (S2 := S) rfl ?_
    refine g_iconst (pc := 15) hX dX7_unband_15 ?_
    refine g_isub (pc := 16) hX dX7_unband_16 ?_
    refine g_i2l (pc := 17) hX (by first | assumption | exact inI_mk (by omega) (by omega)) dX7_unband_17 ?_
    refine g_callT1 (pc := 18) (As := [vL (i), vL (0), vL ((V (24 + 14 * z)) - 1)]) (st2 := []) hX (c_X7_in (x := i) (a := 0) (b := (V (24 + 14 * z)) - 1) (by first | assumption | exact inI_L (by assumption) | exact inL_mk (by omega) (by omega)) (by first | assumption | exact inI_L (by assumption) | exact inL_mk (by omega) (by omega)) (by first | assumption | exact inI_L (by assumption) | exact inL_mk (by omega) (by omega))) gX7_unband_X7_in (n := 3) (hw := rfl) (hrc := rfl) (hrs := rfl) (hd := by decide +kernel) (hR := ⟨Nat.le_of_ble_eq_true rfl, Nat.le_of_ble_eq_true rfl⟩) (hn := rfl) (hst := rfl) (hsum := Nat.le_of_ble_eq_true rfl) (hdg := dX7_unband_18) ?_
    rintro _ S9 ⟨rfl, e9⟩
    rw [e9]
    clear e9 S9
    refine g_at (pc2 := 21) rfl rfl (st2 := [vI (bz (decide (0 ≤ i ∧ i ≤ (V (24 + 14 * z)) - 1)))]) rfl (S2 := S) rfl ?_
    refine g_bif_ne (pc := 21) (tgt := 27) hX dX7_unband_21 (by decide) (fun c_21 => ?_) (fun c_21 => ?_)
    · skip
      have hi1 := of_decide_eq_true c_21
      refine g_aload_n (pc := 27) hX 0 rfl dX7_unband_27 ?_
      refine g_callV0 (pc := 28) (ci := 7) (As := []) (st2 := []) hX 92 (by omega) m92 rfl (c_X7_act hN hm hpm) gX7_unband_X7_act (n := 0) (hw := rfl) (hrc := rfl) (hrs := rfl) (hd := by decide +kernel) (hR := ⟨Nat.le_of_ble_eq_true rfl, Nat.le_of_ble_eq_true rfl⟩) (hn := rfl) (hst := rfl) (hsum := Nat.le_of_ble_eq_true rfl) (hdg := dX7_unband_28) ?_
      rintro S28 hP28
      obtain ⟨⟨m28_92, m28_93, m28_94⟩, ⟨m28_95, m28_96⟩, ⟨m28_97, m28_98, m28_99, m28_100, m28_101⟩, ⟨m28_102, m28_103, m28_104⟩⟩ := hP28.1
      refine g_at (pc2 := 31) rfl rfl (st2 := []) rfl (S2 := S28) rfl ?_
      refine g_aload_n (pc := 31) hX 0 rfl dX7_unband_31 ?_
      refine g_get (pc := 32) hX (ci := 7) (fun _ h => List.mem_cons_of_mem _ (List.mem_append_right _ h)) rfl 92 (by omega) m28_92 0 (by decide) (List.mem_of_getElem? (i := 2) rfl) rfl (v := .ref (gw_ad w 93)) rfl dX7_unband_32 ?_
      refine g_bipush (pc := 35) hX (by decide) dX7_unband_35 ?_
      refine g_bipush (pc := 37) hX (by decide) dX7_unband_37 ?_
      refine g_iload_n (pc := 39) hX 1 rfl dX7_unband_39 ?_
      refine g_imul (pc := 40) hX dX7_unband_40 ?_
      refine g_iadd (pc := 41) hX dX7_unband_41 ?_
      refine g_dup2 (pc := 42) hX rfl rfl dX7_unband_42 ?_
      refine g_lald (pc := 43) hX 93 (by omega) m28_93 (by omega) (by omega) (by decide) dX7_unband_43 ?_
      refine g_lconst (pc := 44) hX (z := 1) rfl dX7_unband_44 ?_
      refine g_lsub (pc := 45) hX dX7_unband_45 ?_
      refine g_last (pc := 46) hX 93 (by omega) m28_93 (by omega) (by omega) (by decide) dX7_unband_46 ?_
      refine g_at rfl rfl rfl (S2 := (va_up S28 93 (AJ w 1200 (updZ (V) (24 + (14 * z)) ((V (24 + (14 * z))) - 1))))) rfl ?_
      obtain ⟨V1, eV1⟩ : ∃ f : Int → Int, f = updZ (V) (24 + (14 * z)) ((V (24 + (14 * z))) - 1) := ⟨_, rfl⟩
      refine g_at rfl rfl rfl (S2 := (va_up S28 93 (AJ w 1200 (V1)))) (by rw [eV1]) ?_
      have hV1z : V1 (24 + 14 * z) = V (24 + 14 * z) - 1 := by rw [eV1, updZ_eq]
      refine g_iload_n (pc := 47) hX 2 rfl dX7_unband_47 ?_
      refine g_istore_n (pc := 48) hX (lv2 := [(3, vI (i)), (0, .ref (gw_ad w 92)), (1, vI (z)), (2, vI (i))]) rfl (by decide) rfl dX7_unband_48 ?_
      have ls : ∀ (n0 : Nat) (c : Int), i ≤ c → c ≤ V (24 + 14 * z) - 1 → V (24 + 14 * z) - 1 - c < n0 → G w { frames := 2, cells := 0, slots := 0, locals := 45 } X 4 49 [(3, vI (c)), (0, .ref (gw_ad w 92)), (1, vI (z)), (2, vI (i))] [] (va_up (va_up S28 93 (AJ w 1200 (V1))) 93 (AJ w 1200 (mcl V1 z i c))) := by
        intro n0
        induction n0 with
        | zero => intro c  h1c h2c h3c; exact absurd h3c (by omega)
        | succ n0 ihls =>
          intro c  h1c h2c h3c 
          have hc : inI c := inI_mk (by omega) (by omega)
          have hVz : mcl V1 z i c (24 + 14 * z) = V (24 + 14 * z) - 1 := by unfold mcl; rw [if_neg (by omega)]; exact hV1z
          refine g_iload_n (pc := 49) hX 0 rfl dX7_unband_49 ?_
          refine g_aload_n (pc := 50) hX 1 rfl dX7_unband_50 ?_
          refine g_iload_n (pc := 51) hX 2 rfl dX7_unband_51 ?_
          refine g_callV1 (pc := 52) (ci := 7) (As := [vI (z)]) (st2 := [vI (c)]) hX 92 (by omega) (up_ne (by decide) (up_ne (by decide) m28_92)) rfl (c_X7_bands hN (show modelAt w (actN pm) tm xm at_ wm wh ir (mcl V1 z i c) (actP pm PV V) TY TX MK MM CH AM WT WK FL PI (va_up (va_up S28 93 (AJ w 1200 (V1))) 93 (AJ w 1200 (mcl V1 z i c))) from ⟨⟨(up_ne (by decide) (up_ne (by decide) m28_92)), (up_eq _ _ _), (up_ne (by decide) (up_ne (by decide) m28_94))⟩, ⟨(up_ne (by decide) (up_ne (by decide) m28_95)), (up_ne (by decide) (up_ne (by decide) m28_96))⟩, ⟨(up_ne (by decide) (up_ne (by decide) m28_97)), (up_ne (by decide) (up_ne (by decide) m28_98)), (up_ne (by decide) (up_ne (by decide) m28_99)), (up_ne (by decide) (up_ne (by decide) m28_100)), (up_ne (by decide) (up_ne (by decide) m28_101))⟩, ⟨(up_ne (by decide) (up_ne (by decide) m28_102)), (up_ne (by decide) (up_ne (by decide) m28_103)), (up_ne (by decide) (up_ne (by decide) m28_104))⟩⟩) (z := z) (by omega) (by omega)) gX7_unband_X7_bands (n := 1) (hw := rfl) (hrc := rfl) (hrs := rfl) (hd := by decide +kernel) (hR := ⟨Nat.le_of_ble_eq_true rfl, Nat.le_of_ble_eq_true rfl⟩) (hn := rfl) (hst := rfl) (hsum := Nat.le_of_ble_eq_true rfl) (hdg := dX7_unband_52) ?_
          rintro _ S9 ⟨rfl, e9⟩
          rw [e9]
          clear e9 S9
          rw [hVz]
          refine g_at (pc2 := 55) rfl rfl (st2 := [vI (V (24 + 14 * z) - 1), vI (c)]) rfl (S2 := (va_up (va_up S28 93 (AJ w 1200 (V1))) 93 (AJ w 1200 (mcl V1 z i c)))) rfl ?_
          refine g_icmp_ge (pc := 55) (tgt := 112) hX (by first | assumption | exact inI_mk (by omega) (by omega)) (by first | assumption | exact inI_mk (by omega) (by omega)) dX7_unband_55 (by decide) (fun c_55 => ?_) (fun c_55 => ?_)
          · skip
            refine g_aload_n (pc := 112) hX 1 rfl dX7_unband_112 ?_
            refine g_iload_n (pc := 113) hX 2 rfl dX7_unband_113 ?_
            refine g_callV1 (pc := 114) (ci := 7) (As := [vI (z)]) (st2 := []) hX 92 (by omega) (up_ne (by decide) (up_ne (by decide) m28_92)) rfl (c_X7_bands hN (show modelAt w (actN pm) tm xm at_ wm wh ir (mcl V1 z i c) (actP pm PV V) TY TX MK MM CH AM WT WK FL PI (va_up (va_up S28 93 (AJ w 1200 (V1))) 93 (AJ w 1200 (mcl V1 z i c))) from ⟨⟨(up_ne (by decide) (up_ne (by decide) m28_92)), (up_eq _ _ _), (up_ne (by decide) (up_ne (by decide) m28_94))⟩, ⟨(up_ne (by decide) (up_ne (by decide) m28_95)), (up_ne (by decide) (up_ne (by decide) m28_96))⟩, ⟨(up_ne (by decide) (up_ne (by decide) m28_97)), (up_ne (by decide) (up_ne (by decide) m28_98)), (up_ne (by decide) (up_ne (by decide) m28_99)), (up_ne (by decide) (up_ne (by decide) m28_100)), (up_ne (by decide) (up_ne (by decide) m28_101))⟩, ⟨(up_ne (by decide) (up_ne (by decide) m28_102)), (up_ne (by decide) (up_ne (by decide) m28_103)), (up_ne (by decide) (up_ne (by decide) m28_104))⟩⟩) (z := z) (by omega) (by omega)) gX7_unband_X7_bands (n := 1) (hw := rfl) (hrc := rfl) (hrs := rfl) (hd := by decide +kernel) (hR := ⟨Nat.le_of_ble_eq_true rfl, Nat.le_of_ble_eq_true rfl⟩) (hn := rfl) (hst := rfl) (hsum := Nat.le_of_ble_eq_true rfl) (hdg := dX7_unband_114) ?_
            rintro _ S9 ⟨rfl, e9⟩
            rw [e9]
            clear e9 S9
            refine g_at (pc2 := 117) rfl rfl (st2 := [vI ((mcl V1 z i c) (24 + 14 * z))]) rfl (S2 := (va_up (va_up S28 93 (AJ w 1200 (V1))) 93 (AJ w 1200 (mcl V1 z i c)))) rfl ?_
            refine g_iret (pc := 117) hX hR dX7_unband_117 ?_
            try simp only [decide_eq_true_eq, decide_eq_false_iff_not] at c_55
            have hct : c = V (24 + 14 * z) - 1 := by omega
            subst hct
            rw [← eV1]
            exact (if_pos (by omega)).mpr (⟨vI_c hVz, ⟨⟨⟨(up_ne (by decide) (up_ne (by decide) m28_92)), (up_eq _ _ _), (up_ne (by decide) (up_ne (by decide) m28_94))⟩, ⟨(up_ne (by decide) (up_ne (by decide) m28_95)), (up_ne (by decide) (up_ne (by decide) m28_96))⟩, ⟨(up_ne (by decide) (up_ne (by decide) m28_97)), (up_ne (by decide) (up_ne (by decide) m28_98)), (up_ne (by decide) (up_ne (by decide) m28_99)), (up_ne (by decide) (up_ne (by decide) m28_100)), (up_ne (by decide) (up_ne (by decide) m28_101))⟩, ⟨(up_ne (by decide) (up_ne (by decide) m28_102)), (up_ne (by decide) (up_ne (by decide) m28_103)), (up_ne (by decide) (up_ne (by decide) m28_104))⟩⟩, fun q hq => (up_ne (by omega) (up_ne (by omega) ((hP28.2 q hq).trans rfl)))⟩⟩)
          · skip
            refine g_aload_n (pc := 58) hX 1 rfl dX7_unband_58 ?_
            refine g_get (pc := 59) hX (ci := 7) (fun _ h => List.mem_cons_of_mem _ (List.mem_append_right _ h)) rfl 92 (by omega) (up_ne (by decide) (up_ne (by decide) m28_92)) 0 (by decide) (List.mem_of_getElem? (i := 2) rfl) rfl (v := .ref (gw_ad w 93)) rfl dX7_unband_59 ?_
            refine g_iload_n (pc := 62) hX 2 rfl dX7_unband_62 ?_
            refine g_iload_n (pc := 63) hX 0 rfl dX7_unband_63 ?_
            refine g_callT1 (pc := 64) (As := [vI (z), vI (c)]) (st2 := [.ref (gw_ad w 93)]) hX (c_X7_placeOf (z := z) (k := c)) gX7_unband_X7_placeOf (n := 2) (hw := rfl) (hrc := rfl) (hrs := rfl) (hd := by decide +kernel) (hR := ⟨Nat.le_of_ble_eq_true rfl, Nat.le_of_ble_eq_true rfl⟩) (hn := rfl) (hst := rfl) (hsum := Nat.le_of_ble_eq_true rfl) (hdg := dX7_unband_64) ?_
            rintro _ S9 ⟨rfl, e9⟩
            rw [e9]
            clear e9 S9
            refine g_at (pc2 := 67) rfl rfl (st2 := [vI (24 + 14 * z + 2 + 2 * c), .ref (gw_ad w 93)]) rfl (S2 := (va_up (va_up S28 93 (AJ w 1200 (V1))) 93 (AJ w 1200 (mcl V1 z i c)))) rfl ?_
            refine g_aload_n (pc := 67) hX 1 rfl dX7_unband_67 ?_
            refine g_get (pc := 68) hX (ci := 7) (fun _ h => List.mem_cons_of_mem _ (List.mem_append_right _ h)) rfl 92 (by omega) (up_ne (by decide) (up_ne (by decide) m28_92)) 0 (by decide) (List.mem_of_getElem? (i := 2) rfl) rfl (v := .ref (gw_ad w 93)) rfl dX7_unband_68 ?_
            refine g_iload_n (pc := 71) hX 2 rfl dX7_unband_71 ?_
            refine g_iload_n (pc := 72) hX 0 rfl dX7_unband_72 ?_
            refine g_iconst (pc := 73) hX dX7_unband_73 ?_
            refine g_iadd (pc := 74) hX dX7_unband_74 ?_
            refine g_callT1 (pc := 75) (As := [vI (z), vI (c + 1)]) (st2 := [.ref (gw_ad w 93), vI (24 + 14 * z + 2 + 2 * c), .ref (gw_ad w 93)]) hX (c_X7_placeOf (z := z) (k := c + 1)) gX7_unband_X7_placeOf (n := 2) (hw := rfl) (hrc := rfl) (hrs := rfl) (hd := by decide +kernel) (hR := ⟨Nat.le_of_ble_eq_true rfl, Nat.le_of_ble_eq_true rfl⟩) (hn := rfl) (hst := rfl) (hsum := Nat.le_of_ble_eq_true rfl) (hdg := dX7_unband_75) ?_
            rintro _ S9 ⟨rfl, e9⟩
            rw [e9]
            clear e9 S9
            refine g_at (pc2 := 78) rfl rfl (st2 := [vI (24 + 14 * z + 2 + 2 * (c + 1)), .ref (gw_ad w 93), vI (24 + 14 * z + 2 + 2 * c), .ref (gw_ad w 93)]) rfl (S2 := (va_up (va_up S28 93 (AJ w 1200 (V1))) 93 (AJ w 1200 (mcl V1 z i c)))) rfl ?_
            refine g_lald (pc := 78) hX 93 (by omega) (up_eq _ _ _) (by omega) (by omega) (by decide) dX7_unband_78 ?_
            refine g_last (pc := 79) hX 93 (by omega) (up_eq _ _ _) (by omega) (by omega) (by decide) dX7_unband_79 ?_
            refine g_at rfl rfl rfl (S2 := (va_up (va_up (va_up S28 93 (AJ w 1200 (V1))) 93 (AJ w 1200 (mcl V1 z i c))) 93 (AJ w 1200 (updZ (mcl V1 z i c) (24 + 14 * z + 2 + 2 * c) ((mcl V1 z i c) (24 + 14 * z + 2 + 2 * (c + 1))))))) rfl ?_
            refine g_aload_n (pc := 80) hX 1 rfl dX7_unband_80 ?_
            refine g_get (pc := 81) hX (ci := 7) (fun _ h => List.mem_cons_of_mem _ (List.mem_append_right _ h)) rfl 92 (by omega) (up_ne (by decide) (up_ne (by decide) (up_ne (by decide) m28_92))) 0 (by decide) (List.mem_of_getElem? (i := 2) rfl) rfl (v := .ref (gw_ad w 93)) rfl dX7_unband_81 ?_
            refine g_iload_n (pc := 84) hX 2 rfl dX7_unband_84 ?_
            refine g_iload_n (pc := 85) hX 0 rfl dX7_unband_85 ?_
            refine g_callT1 (pc := 86) (As := [vI (z), vI (c)]) (st2 := [.ref (gw_ad w 93)]) hX (c_X7_placeOf (z := z) (k := c)) gX7_unband_X7_placeOf (n := 2) (hw := rfl) (hrc := rfl) (hrs := rfl) (hd := by decide +kernel) (hR := ⟨Nat.le_of_ble_eq_true rfl, Nat.le_of_ble_eq_true rfl⟩) (hn := rfl) (hst := rfl) (hsum := Nat.le_of_ble_eq_true rfl) (hdg := dX7_unband_86) ?_
            rintro _ S9 ⟨rfl, e9⟩
            rw [e9]
            clear e9 S9
            refine g_at (pc2 := 89) rfl rfl (st2 := [vI (24 + 14 * z + 2 + 2 * c), .ref (gw_ad w 93)]) rfl (S2 := (va_up (va_up (va_up S28 93 (AJ w 1200 (V1))) 93 (AJ w 1200 (mcl V1 z i c))) 93 (AJ w 1200 (updZ (mcl V1 z i c) (24 + 14 * z + 2 + 2 * c) ((mcl V1 z i c) (24 + 14 * z + 2 + 2 * (c + 1))))))) rfl ?_
            refine g_iconst (pc := 89) hX dX7_unband_89 ?_
            refine g_iadd (pc := 90) hX dX7_unband_90 ?_
            refine g_aload_n (pc := 91) hX 1 rfl dX7_unband_91 ?_
            refine g_get (pc := 92) hX (ci := 7) (fun _ h => List.mem_cons_of_mem _ (List.mem_append_right _ h)) rfl 92 (by omega) (up_ne (by decide) (up_ne (by decide) (up_ne (by decide) m28_92))) 0 (by decide) (List.mem_of_getElem? (i := 2) rfl) rfl (v := .ref (gw_ad w 93)) rfl dX7_unband_92 ?_
            refine g_iload_n (pc := 95) hX 2 rfl dX7_unband_95 ?_
            refine g_iload_n (pc := 96) hX 0 rfl dX7_unband_96 ?_
            refine g_iconst (pc := 97) hX dX7_unband_97 ?_
            refine g_iadd (pc := 98) hX dX7_unband_98 ?_
            refine g_callT1 (pc := 99) (As := [vI (z), vI (c + 1)]) (st2 := [.ref (gw_ad w 93), vI ((24 + 14 * z + 2 + 2 * c) + 1), .ref (gw_ad w 93)]) hX (c_X7_placeOf (z := z) (k := c + 1)) gX7_unband_X7_placeOf (n := 2) (hw := rfl) (hrc := rfl) (hrs := rfl) (hd := by decide +kernel) (hR := ⟨Nat.le_of_ble_eq_true rfl, Nat.le_of_ble_eq_true rfl⟩) (hn := rfl) (hst := rfl) (hsum := Nat.le_of_ble_eq_true rfl) (hdg := dX7_unband_99) ?_
            rintro _ S9 ⟨rfl, e9⟩
            rw [e9]
            clear e9 S9
            refine g_at (pc2 := 102) rfl rfl (st2 := [vI (24 + 14 * z + 2 + 2 * (c + 1)), .ref (gw_ad w 93), vI ((24 + 14 * z + 2 + 2 * c) + 1), .ref (gw_ad w 93)]) rfl (S2 := (va_up (va_up (va_up S28 93 (AJ w 1200 (V1))) 93 (AJ w 1200 (mcl V1 z i c))) 93 (AJ w 1200 (updZ (mcl V1 z i c) (24 + 14 * z + 2 + 2 * c) ((mcl V1 z i c) (24 + 14 * z + 2 + 2 * (c + 1))))))) rfl ?_
            refine g_iconst (pc := 102) hX dX7_unband_102 ?_
            refine g_iadd (pc := 103) hX dX7_unband_103 ?_
            refine g_lald (pc := 104) hX 93 (by omega) (up_eq _ _ _) (by omega) (by omega) (by decide) dX7_unband_104 ?_
            refine g_last (pc := 105) hX 93 (by omega) (up_eq _ _ _) (by omega) (by omega) (by decide) dX7_unband_105 ?_
            refine g_at rfl rfl rfl (S2 := (va_up (va_up (va_up (va_up S28 93 (AJ w 1200 (V1))) 93 (AJ w 1200 (mcl V1 z i c))) 93 (AJ w 1200 (updZ (mcl V1 z i c) (24 + 14 * z + 2 + 2 * c) ((mcl V1 z i c) (24 + 14 * z + 2 + 2 * (c + 1)))))) 93 (AJ w 1200 (updZ (updZ (mcl V1 z i c) (24 + 14 * z + 2 + 2 * c) ((mcl V1 z i c) (24 + 14 * z + 2 + 2 * (c + 1)))) ((24 + 14 * z + 2 + 2 * c) + 1) ((updZ (mcl V1 z i c) (24 + 14 * z + 2 + 2 * c) ((mcl V1 z i c) (24 + 14 * z + 2 + 2 * (c + 1)))) ((24 + 14 * z + 2 + 2 * (c + 1)) + 1)))))) rfl ?_
            refine g_iinc (pc := 106) hX (lv2 := [(3, vI (c + 1)), (0, .ref (gw_ad w 92)), (1, vI (z)), (2, vI (i))]) 0 rfl (by decide) rfl dX7_unband_106 ?_
            refine g_goto (pc := 109) (tgt := 49) hX dX7_unband_109 (by decide) ?_
            refine g_sub (lv2 := [(3, vI (c + 1)), (0, .ref (gw_ad w 92)), (1, vI (z)), (2, vI (i))]) [0, 1, 2, 3] rfl ?_
            refine g_at rfl (lv2 := [(3, vI (c + 1)), (0, .ref (gw_ad w 92)), (1, vI (z)), (2, vI (i))]) (rfl) rfl (S2 := (va_up (va_up S28 93 (AJ w 1200 (V1))) 93 (AJ w 1200 (mcl V1 z i (c + 1))))) (by rw [up_up, up_up, mcl_s h1c]) ?_
            exact ihls (c + 1)  (by omega) (by omega) (by omega) 
      refine g_sub (lv2 := [(3, vI (i)), (0, .ref (gw_ad w 92)), (1, vI (z)), (2, vI (i))]) [0, 1, 2, 3] rfl ?_
      refine g_at rfl (lv2 := [(3, vI (i)), (0, .ref (gw_ad w 92)), (1, vI (z)), (2, vI (i))]) (rfl) rfl (S2 := (va_up (va_up S28 93 (AJ w 1200 (V1))) 93 (AJ w 1200 (mcl V1 z i i)))) (by rw [mcl_0, up_self (f := (va_up S28 93 (AJ w 1200 (V1)))) (up_eq _ _ _)]) ?_
      exact ls ((V (24 + 14 * z) - 1 : Int) - i + 1).toNat i  (by omega) (by omega) (by omega) 
    · skip
      refine g_ldc (pc := 24) hX (z := -1000001) (List.mem_of_getElem? (i := 1) rfl) (by decide +kernel) dX7_unband_24 ?_
      refine g_iret (pc := 26) hX hR dX7_unband_26 ?_
      try simp only [decide_eq_true_eq, decide_eq_false_iff_not] at c_4 c_21
      exact (if_neg (by omega)).mpr (⟨rfl, rfl⟩)

set_option maxHeartbeats 4000000 in
set_option maxRecDepth 100000 in
theorem c_X7_unrule {w : gW} {l : Launch} {S : Nat → va_E} {pm tm xm at_ wm wh : Int} {ir : Bool} {V PV TY TX MK MM CH AM WT WK FL PI : Int → Int} (hN : gw_N w = 105) (hm : modelAt w pm tm xm at_ wm wh ir V PV TY TX MK MM CH AM WT WK FL PI S) (hpm : 0 ≤ pm ∧ pm ≤ 4) (h18 : 0 ≤ V 18 ∧ V 18 ≤ 8) :
    GM1 w l yX7_unrule wsX7_unrule { frames := 1, cells := 0, slots := 0, locals := 21 } [.ref (gw_ad w 92)] S
      (fun v S' => if V 18 = 0 then v = vI (-1000002) ∧ S' = S else v = vI (V 18 - 1) ∧ POSTM w S (actN pm) tm xm at_ wm wh ir (updZ V 18 (V 18 - 1)) (actP pm PV V) TY TX MK MM CH AM WT WK FL PI S') := by
  refine GM.start (own := RX7) (n := "unrule") (d := "()I") (by decide) rfl (Nat.le_of_ble_eq_true rfl) ?_
  intro X hX hR hXl
  subst hXl
  refine g_at rfl (lv2 := [(0, .ref (gw_ad w 92))]) rfl rfl rfl ?_
  obtain ⟨⟨m92, m93, m94⟩, ⟨m95, m96⟩, ⟨m97, m98, m99, m100, m101⟩, ⟨m102, m103, m104⟩⟩ := (id hm)
  refine g_aload_n (pc := 0) hX 0 rfl dX7_unrule_0 ?_
  refine g_get (pc := 1) hX (ci := 7) (fun _ h => List.mem_cons_of_mem _ (List.mem_append_right _ h)) rfl 92 (by omega) m92 0 (by decide) (List.mem_of_getElem? (i := 1) rfl) rfl (v := .ref (gw_ad w 93)) rfl dX7_unrule_1 ?_
  refine g_bipush (pc := 4) hX (by decide) dX7_unrule_4 ?_
  refine g_lald (pc := 6) hX 93 (by omega) m93 (by omega) (by omega) (by decide) dX7_unrule_6 ?_
  refine g_lconst (pc := 7) hX (z := 0) rfl dX7_unrule_7 ?_
  refine g_lcmp_ne (pc := 8) (tgt := 15) hX (by first | assumption | exact inI_L (by assumption) | exact inL_mk (by omega) (by omega)) (by first | assumption | exact inI_L (by assumption) | exact inL_mk (by omega) (by omega)) dX7_unrule_8 dX7_unrule_9 (by decide) (fun c_8 => ?_) (fun c_8 => ?_)
  · skip
    refine g_aload_n (pc := 15) hX 0 rfl dX7_unrule_15 ?_
    refine g_callV0 (pc := 16) (ci := 7) (As := []) (st2 := []) hX 92 (by omega) m92 rfl (c_X7_act hN hm hpm) gX7_unrule_X7_act (n := 0) (hw := rfl) (hrc := rfl) (hrs := rfl) (hd := by decide +kernel) (hR := ⟨Nat.le_of_ble_eq_true rfl, Nat.le_of_ble_eq_true rfl⟩) (hn := rfl) (hst := rfl) (hsum := Nat.le_of_ble_eq_true rfl) (hdg := dX7_unrule_16) ?_
    rintro S16 hP16
    obtain ⟨⟨m16_92, m16_93, m16_94⟩, ⟨m16_95, m16_96⟩, ⟨m16_97, m16_98, m16_99, m16_100, m16_101⟩, ⟨m16_102, m16_103, m16_104⟩⟩ := hP16.1
    refine g_at (pc2 := 19) rfl rfl (st2 := []) rfl (S2 := S16) rfl ?_
    refine g_aload_n (pc := 19) hX 0 rfl dX7_unrule_19 ?_
    refine g_get (pc := 20) hX (ci := 7) (fun _ h => List.mem_cons_of_mem _ (List.mem_append_right _ h)) rfl 92 (by omega) m16_92 0 (by decide) (List.mem_of_getElem? (i := 1) rfl) rfl (v := .ref (gw_ad w 93)) rfl dX7_unrule_20 ?_
    refine g_bipush (pc := 23) hX (by decide) dX7_unrule_23 ?_
    refine g_dup2 (pc := 25) hX rfl rfl dX7_unrule_25 ?_
    refine g_lald (pc := 26) hX 93 (by omega) m16_93 (by omega) (by omega) (by decide) dX7_unrule_26 ?_
    refine g_lconst (pc := 27) hX (z := 1) rfl dX7_unrule_27 ?_
    refine g_lsub (pc := 28) hX dX7_unrule_28 ?_
    refine g_last (pc := 29) hX 93 (by omega) m16_93 (by omega) (by omega) (by decide) dX7_unrule_29 ?_
    refine g_at rfl rfl rfl (S2 := (va_up S16 93 (AJ w 1200 (updZ (V) (18) ((V 18) - 1))))) rfl ?_
    refine g_aload_n (pc := 30) hX 0 rfl dX7_unrule_30 ?_
    refine g_get (pc := 31) hX (ci := 7) (fun _ h => List.mem_cons_of_mem _ (List.mem_append_right _ h)) rfl 92 (by omega) (up_ne (by decide) m16_92) 0 (by decide) (List.mem_of_getElem? (i := 1) rfl) rfl (v := .ref (gw_ad w 93)) rfl dX7_unrule_31 ?_
    refine g_bipush (pc := 34) hX (by decide) dX7_unrule_34 ?_
    refine g_lald (pc := 36) hX 93 (by omega) (up_eq _ _ _) (by omega) (by omega) (by decide) dX7_unrule_36 ?_
    refine g_l2i (pc := 37) hX dX7_unrule_37 ?_
    refine g_iret (pc := 38) hX hR dX7_unrule_38 ?_
    exact (if_neg (by omega)).mpr (⟨rfl, ⟨⟨⟨(up_ne (by decide) m16_92), (up_eq _ _ _), (up_ne (by decide) m16_94)⟩, ⟨(up_ne (by decide) m16_95), (up_ne (by decide) m16_96)⟩, ⟨(up_ne (by decide) m16_97), (up_ne (by decide) m16_98), (up_ne (by decide) m16_99), (up_ne (by decide) m16_100), (up_ne (by decide) m16_101)⟩, ⟨(up_ne (by decide) m16_102), (up_ne (by decide) m16_103), (up_ne (by decide) m16_104)⟩⟩, fun q hq => (up_ne (by omega) ((hP16.2 q hq).trans rfl))⟩⟩)
  · skip
    refine g_ldc (pc := 12) hX (z := -1000002) (List.mem_of_getElem? (i := 2) rfl) (by decide +kernel) dX7_unrule_12 ?_
    refine g_iret (pc := 14) hX hR dX7_unrule_14 ?_
    exact (if_pos (by omega)).mpr (⟨rfl, rfl⟩)
