/-! ===== the law's loop ===== -/
theorem law_loop {w : gW} {X : gX} {b L : Nat} {f : Nat → Int} (hX : gOK w room_1 X cL_law 8 RL wsL_law) (hT : scrT w X b L f) (hL : L ≤ 3072) (hf : ∀ j, inI (f j)) (hend : ∀ S, INV w S → G w room_1 X 8 1076 [] [] S) : ∀ (n : Nat) (i : Int) (S : Nat → va_E), 0 ≤ i → i ≤ 4000 → (L : Int) - i ≤ n → INV w S → G w room_1 X 8 18 [(3, vI i), (0, .ref b), (1, .ref (gw_ad w 0)), (2, .ref (gw_ad w 92))] [] S := by
  intro n
  induction n with
  | zero =>
    intro i S i0 i1 hn hI
    refine g_iload_n (pc := 18) hX 0 rfl dL_law_18 ?_
    refine g_aload_n (pc := 19) hX 1 rfl dL_law_19 ?_
    refine g_sclen (pc := 20) hX hT dL_law_20 ?_
    refine g_bipush (pc := 21) hX (by decide) dL_law_21 ?_
    refine g_isub (pc := 23) hX dL_law_23 ?_
    refine g_icmp_gt (pc := 24) (tgt := 1076) hX ⟨by omega, by omega⟩ ⟨by omega, by omega⟩ dL_law_24 (by decide) (fun c => ?_) (fun c => ?_)
    · exact g_sub [] rfl (hend S hI)
    · omega
  | succ n ih =>
    intro i S i0 i1 hn hI
    refine g_iload_n (pc := 18) hX 0 rfl dL_law_18 ?_
    refine g_aload_n (pc := 19) hX 1 rfl dL_law_19 ?_
    refine g_sclen (pc := 20) hX hT dL_law_20 ?_
    refine g_bipush (pc := 21) hX (by decide) dL_law_21 ?_
    refine g_isub (pc := 23) hX dL_law_23 ?_
    refine g_icmp_gt (pc := 24) (tgt := 1076) hX ⟨by omega, by omega⟩ ⟨by omega, by omega⟩ dL_law_24 (by decide) (fun c => ?_) (fun c => ?_)
    · exact g_sub [] rfl (hend S hI)
    · have hi : 0 ≤ i ∧ i + 6 ≤ L := ⟨i0, by omega⟩
      have hk : ∀ S', INV w S' → G w room_1 X 8 1070 [(3, vI i), (0, .ref b), (1, .ref (gw_ad w 0)), (2, .ref (gw_ad w 92))] [] S' := fun S' h' => by
        refine g_iinc (pc := 1070) hX (lv2 := [(3, vI (i + 6)), (0, .ref b), (1, .ref (gw_ad w 0)), (2, .ref (gw_ad w 92))]) 0 rfl (by decide) rfl dL_law_1070 ?_
        refine g_goto (pc := 1073) (tgt := 18) hX dL_law_1073 (by decide) ?_
        exact ih (i + 6) S' (by omega) (by omega) (by omega) h'
      refine g_aload_n (pc := 27) hX 1 rfl dL_law_27 ?_
      refine g_iload_n (pc := 28) hX 0 rfl dL_law_28 ?_
      refine g_scald (pc := 29) hX hT i0 (by omega) (by omega) dL_law_29 ?_
      refine g_bipush (pc := 30) hX (by decide) dL_law_30 ?_
      obtain ⟨z, ez, z0, z31⟩ := and31 (iI (f i.toNat))
      refine g_iand (pc := 32) hX ez dL_law_32 ?_
      rcases (show z = 0 ∨ z = 1 ∨ z = 2 ∨ z = 3 ∨ z = 4 ∨ z = 5 ∨ z = 6 ∨ z = 7 ∨ z = 8 ∨ z = 9 ∨ z = 10 ∨ z = 11 ∨ z = 12 ∨ z = 13 ∨ z = 14 ∨ z = 15 ∨ z = 16 ∨ z = 17 ∨ z = 18 ∨ z = 19 ∨ z = 20 ∨ z = 21 ∨ z = 22 ∨ z = 23 ∨ z = 24 ∨ z = 25 ∨ z = 26 ∨ z = 27 ∨ z = 28 ∨ z = 29 ∨ z = 30 ∨ z = 31 by omega) with e | e | e | e | e | e | e | e | e | e | e | e | e | e | e | e | e | e | e | e | e | e | e | e | e | e | e | e | e | e | e | e
      · exact g_tin (pc := 33) (tgt := 176) (n := 0) hX e (by decide) (by decide) (by decide) rfl dL_law_33 (by decide) (law_set hX hT hL hf hi hI hk)
      · exact g_tin (pc := 33) (tgt := 209) (n := 1) hX e (by decide) (by decide) (by decide) rfl dL_law_33 (by decide) (law_setting hX hT hL hf hi hI hk)
      · exact g_tin (pc := 33) (tgt := 232) (n := 2) hX e (by decide) (by decide) (by decide) rfl dL_law_33 (by decide) (law_load hX hT hL hf hi hI hk)
      · exact g_tin (pc := 33) (tgt := 255) (n := 3) hX e (by decide) (by decide) (by decide) rfl dL_law_33 (by decide) (law_tick hX hT hL hf hi hI hk)
      · exact g_tin (pc := 33) (tgt := 278) (n := 4) hX e (by decide) (by decide) (by decide) rfl dL_law_33 (by decide) (law_zero hX hT hL hf hi hI hk)
      · exact g_tin (pc := 33) (tgt := 291) (n := 5) hX e (by decide) (by decide) (by decide) rfl dL_law_33 (by decide) (law_tare hX hT hL hf hi hI hk)
      · exact g_tin (pc := 33) (tgt := 304) (n := 6) hX e (by decide) (by decide) (by decide) rfl dL_law_33 (by decide) (law_scale hX hT hL hf hi hI hk)
      · exact g_tin (pc := 33) (tgt := 327) (n := 7) hX e (by decide) (by decide) (by decide) rfl dL_law_33 (by decide) (law_band hX hT hL hf hi hI hk)
      · exact g_tin (pc := 33) (tgt := 370) (n := 8) hX e (by decide) (by decide) (by decide) rfl dL_law_33 (by decide) (law_unband hX hT hL hf hi hI hk)
      · exact g_tin (pc := 33) (tgt := 403) (n := 9) hX e (by decide) (by decide) (by decide) rfl dL_law_33 (by decide) (law_bandAt hX hT hL hf hi hI hk)
      · exact g_tin (pc := 33) (tgt := 446) (n := 10) hX e (by decide) (by decide) (by decide) rfl dL_law_33 (by decide) (law_setExtra hX hT hL hf hi hI hk)
      · exact g_tin (pc := 33) (tgt := 479) (n := 11) hX e (by decide) (by decide) (by decide) rfl dL_law_33 (by decide) (law_type hX hT hL hf hi hI hk)
      · exact g_tin (pc := 33) (tgt := 502) (n := 12) hX e (by decide) (by decide) (by decide) rfl dL_law_33 (by decide) (law_clear hX hT hL hf hi hI hk)
      · exact g_tin (pc := 33) (tgt := 515) (n := 13) hX e (by decide) (by decide) (by decide) rfl dL_law_33 (by decide) (law_rule hX hT hL hf hi hI hk)
      · exact g_tin (pc := 33) (tgt := 528) (n := 14) hX e (by decide) (by decide) (by decide) rfl dL_law_33 (by decide) (law_unrule hX hT hL hf hi hI hk)
      · exact g_tin (pc := 33) (tgt := 541) (n := 15) hX e (by decide) (by decide) (by decide) rfl dL_law_33 (by decide) (law_rules hX hT hL hf hi hI hk)
      · exact g_tin (pc := 33) (tgt := 554) (n := 16) hX e (by decide) (by decide) (by decide) rfl dL_law_33 (by decide) (law_take hX hT hL hf hi hI hk)
      · exact g_tin (pc := 33) (tgt := 607) (n := 17) hX e (by decide) (by decide) (by decide) rfl dL_law_33 (by decide) (law_quote hX hT hL hf hi hI hk)
      · exact g_tin (pc := 33) (tgt := 670) (n := 18) hX e (by decide) (by decide) (by decide) rfl dL_law_33 (by decide) (law_parcel hX hT hL hf hi hI hk)
      · exact g_tin (pc := 33) (tgt := 703) (n := 19) hX e (by decide) (by decide) (by decide) rfl dL_law_33 (by decide) (law_why hX hT hL hf hi hI hk)
      · exact g_tin (pc := 33) (tgt := 736) (n := 20) hX e (by decide) (by decide) (by decide) rfl dL_law_33 (by decide) (law_parcels hX hT hL hf hi hI hk)
      · exact g_tin (pc := 33) (tgt := 749) (n := 21) hX e (by decide) (by decide) (by decide) rfl dL_law_33 (by decide) (law_density hX hT hL hf hi hI hk)
      · exact g_tin (pc := 33) (tgt := 802) (n := 22) hX e (by decide) (by decide) (by decide) rfl dL_law_33 (by decide) (law_dispute hX hT hL hf hi hI hk)
      · exact g_tin (pc := 33) (tgt := 845) (n := 23) hX e (by decide) (by decide) (by decide) rfl dL_law_33 (by decide) (law_settle hX hT hL hf hi hI hk)
      · exact g_tin (pc := 33) (tgt := 894) (n := 24) hX e (by decide) (by decide) (by decide) rfl dL_law_33 (by decide) (law_note hX hT hL hf hi hI hk)
      · exact g_tin (pc := 33) (tgt := 927) (n := 25) hX e (by decide) (by decide) (by decide) rfl dL_law_33 (by decide) (law_notes hX hT hL hf hi hI hk)
      · exact g_tin (pc := 33) (tgt := 940) (n := 26) hX e (by decide) (by decide) (by decide) rfl dL_law_33 (by decide) (law_sum hX hT hL hf hi hI hk)
      · exact g_tin (pc := 33) (tgt := 964) (n := 27) hX e (by decide) (by decide) (by decide) rfl dL_law_33 (by decide) (law_lighter hX hT hL hf hi hI hk)
      · exact g_tin (pc := 33) (tgt := 987) (n := 28) hX e (by decide) (by decide) (by decide) rfl dL_law_33 (by decide) (law_shorter hX hT hL hf hi hI hk)
      · exact g_tin (pc := 33) (tgt := 1020) (n := 29) hX e (by decide) (by decide) (by decide) rfl dL_law_33 (by decide) (law_cheapest hX hT hL hf hi hI hk)
      · exact g_tin (pc := 33) (tgt := 1043) (n := 30) hX e (by decide) (by decide) (by decide) rfl dL_law_33 (by decide) (law_undo hX hT hL hf hi hI hk)
      · exact g_tin (pc := 33) (tgt := 1056) (n := 31) hX e (by decide) (by decide) (by decide) rfl dL_law_33 (by decide) (law_fingerprint hX hT hL hf hi hI hk)
