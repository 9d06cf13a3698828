set_option maxHeartbeats 4000000 in
set_option maxRecDepth 100000 in
theorem law_set {w : gW} {X : gX} {b L : Nat} {f : Nat → Int} {S : Nat → va_E} {D : SD} {k q a how : Int} (hX : gOK w room_1 X cL_law 21 RL wsL_law) (hSc : scrT w X b L f) (hL : L ≤ 260) (hf : ∀ j, inI (f j)) (hA : A0 w D S) (hk : 0 ≤ k ∧ k < 30) (hi : snP D ≤ k ∧ sG D 1 ≤ 3 * k)
    (hend : ∀ (D2 : SD) (S2 : Nat → va_E) (P N Q : Int), A0 w D2 S2 → P = snP D2 → N = snN D2 → Q = snR D2 → (snP D2 ≤ k + 1 ∧ sG D2 1 ≤ 3 * k + 3) → G w room_1 X 21 1488 [(8, vI 1), (0, .ref b), (1, .ref (gw_ad w 0)), (2, vI P), (3, vI N), (4, vI Q), (5, vI k)] [] S2) : G w room_1 X 21 611 [(0, .ref b), (1, .ref (gw_ad w 0)), (2, vI (snP D)), (3, vI (snN D)), (4, vI (snR D)), (5, vI (k)), (6, vI (q)), (7, vI (a)), (8, vI (1)), (9, vI (how)), (10, vL (fpZ D))] [] S := by
  have hb := hA.b
  refine g_iload (pc := 611) hX 7 rfl dL_law_611 ?_
  refine g_bipush (pc := 613) hX (by decide) dL_law_613 ?_
  refine g_callT1 (pc := 615) (As := [vI (a), vI (8)]) (st2 := []) hX (c_L_up (x := a) (m := 8) (by omega) (by omega)) gL_law_L_up (n := 2) (hw := rfl) (hrc := rfl) (hrs := rfl) (hd := by decide +kernel) (hR := ⟨Nat.le_of_ble_eq_true rfl, Nat.le_of_ble_eq_true rfl⟩) (hn := rfl) (hst := rfl) (hsum := Nat.le_of_ble_eq_true rfl) (hdg := dL_law_615) ?_
  rintro _ S9 ⟨rfl, e9⟩
  rw [e9]
  clear e9 S9
  refine g_at (pc2 := 618) rfl rfl (st2 := [vI (upZ a 8)]) rfl (S2 := S) rfl ?_
  obtain ⟨wh, ewh⟩ : ∃ z : Int, z = upZ a 8 := ⟨_, rfl⟩
  refine g_at rfl rfl (st2 := [vI (wh)]) (by rw [ewh]) rfl ?_
  have hwh : 0 ≤ wh ∧ wh < 8 := by rw [ewh]; exact upZ_b _ (by decide)
  refine g_istore (pc := 618) hX (lv2 := [(12, vI (wh)), (0, .ref b), (1, .ref (gw_ad w 0)), (2, vI (snP D)), (3, vI (snN D)), (4, vI (snR D)), (5, vI (k)), (6, vI (q)), (7, vI (a)), (8, vI (1)), (9, vI (how)), (10, vL (fpZ D))]) (by decide) rfl dL_law_618 ?_
  have j756 : ∀ (vv : Int), (setOK wh vv) → G w room_1 X 21 756 [(12, vI (wh)), (0, .ref b), (1, .ref (gw_ad w 0)), (2, vI (snP D)), (3, vI (snN D)), (4, vI (snR D)), (5, vI (k))] [vI (vv)] S := by
    intro vv hvv
    have hvi : -100000 ≤ vv ∧ vv ≤ 100000 := by have := hvv.2; have := loS_b wh.toNat; have := hiS_b wh.toNat; omega
    have hs := hA.set (i := wh) (by omega) (by omega)
    refine g_istore (pc := 756) hX (lv2 := [(13, vI (vv)), (12, vI (wh)), (0, .ref b), (1, .ref (gw_ad w 0)), (2, vI (snP D)), (3, vI (snN D)), (4, vI (snR D)), (5, vI (k))]) (by decide) rfl dL_law_756 ?_
    refine g_aload_n (pc := 758) hX 3 rfl dL_law_758 ?_
    refine g_iload (pc := 759) hX 1 rfl dL_law_759 ?_
    refine g_callD (pc := 761) (As := [vI (wh)]) (st2 := []) hX hA.N hA.e (q_setting hA (i := wh) (by omega) (by omega)) gL_law_X6_setting (n := 1) (hw := rfl) (hrc := rfl) (hrs := rfl) (hd := by decide +kernel) (hR := ⟨Nat.le_of_ble_eq_true rfl, Nat.le_of_ble_eq_true rfl⟩) (hn := rfl) (hst := rfl) (hsum := Nat.le_of_ble_eq_true rfl) (hdg := dL_law_761) ?_
    rintro _ S9 ⟨rfl, e9⟩
    rw [e9]
    clear e9 S9
    refine g_at (pc2 := 764) rfl rfl (st2 := [vI (sF D wh)]) rfl (S2 := S) rfl ?_
    refine g_istore (pc := 764) hX (lv2 := [(14, vI (sF D wh)), (13, vI (vv)), (12, vI (wh)), (0, .ref b), (1, .ref (gw_ad w 0)), (2, vI (snP D)), (3, vI (snN D)), (4, vI (snR D)), (5, vI (k))]) (by decide) rfl dL_law_764 ?_
    refine g_aload_n (pc := 766) hX 4 rfl dL_law_766 ?_
    refine g_iload (pc := 767) hX 2 rfl dL_law_767 ?_
    refine g_iload (pc := 769) hX 1 rfl dL_law_769 ?_
    refine g_callD (pc := 771) (As := [vI (wh), vI (vv)]) (st2 := []) hX hA.N hA.e (q_set hA (i := wh) (x := vv) hvv) gL_law_X6_set (n := 2) (hw := rfl) (hrc := rfl) (hrs := rfl) (hd := by decide +kernel) (hR := ⟨Nat.le_of_ble_eq_true rfl, Nat.le_of_ble_eq_true rfl⟩) (hn := rfl) (hst := rfl) (hsum := Nat.le_of_ble_eq_true rfl) (hdg := dL_law_771) ?_
    rintro _ S771 ⟨rfl, D2, hA2, eW, eG, eC, eP, eN, eR⟩
    refine g_at (pc2 := 774) rfl rfl (st2 := [vI (sF D wh)]) rfl (S2 := S771) rfl ?_
    have eG1 : sG D2 1 = sG D 1 := by rw [eG]
    have hs2 := hA2.set (i := wh) (by omega) (by omega)
    refine g_iload (pc := 774) hX 0 rfl dL_law_774 ?_
    refine g_icmp_ne (pc := 776) (tgt := 794) hX (by first | assumption | exact inI_mk (by omega) (by omega)) (by first | assumption | exact inI_mk (by omega) (by omega)) dL_law_776 (by decide) (fun c_776 => ?_) (fun c_776 => ?_)
    · skip
      omega
    · skip
      refine g_aload_n (pc := 779) hX 4 rfl dL_law_779 ?_
      refine g_iload (pc := 780) hX 2 rfl dL_law_780 ?_
      refine g_callD (pc := 782) (As := [vI (wh)]) (st2 := []) hX hA2.N hA2.e (q_setting hA2 (i := wh) (by omega) (by omega)) gL_law_X6_setting (n := 1) (hw := rfl) (hrc := rfl) (hrs := rfl) (hd := by decide +kernel) (hR := ⟨Nat.le_of_ble_eq_true rfl, Nat.le_of_ble_eq_true rfl⟩) (hn := rfl) (hst := rfl) (hsum := Nat.le_of_ble_eq_true rfl) (hdg := dL_law_782) ?_
      rintro _ S9 ⟨rfl, e9⟩
      rw [e9]
      clear e9 S9
      refine g_at (pc2 := 785) rfl rfl (st2 := [vI (sF D2 wh)]) rfl (S2 := S771) rfl ?_
      refine g_iload (pc := 785) hX 1 rfl dL_law_785 ?_
      refine g_icmp_ne (pc := 787) (tgt := 794) hX (by first | assumption | exact inI_mk (by omega) (by omega)) (by first | assumption | exact inI_mk (by omega) (by omega)) dL_law_787 (by decide) (fun c_787 => ?_) (fun c_787 => ?_)
      · skip
        omega
      · skip
        refine g_iconst (pc := 790) hX dL_law_790 ?_
        refine g_goto (pc := 791) (tgt := 795) hX dL_law_791 (by decide) ?_
        refine g_istore (pc := 795) hX (lv2 := [(8, vI (1)), (14, vI (sF D wh)), (13, vI (vv)), (12, vI (wh)), (0, .ref b), (1, .ref (gw_ad w 0)), (2, vI (snP D)), (3, vI (snN D)), (4, vI (snR D)), (5, vI (k))]) (by decide) rfl dL_law_795 ?_
        refine g_goto (pc := 797) (tgt := 1488) hX dL_law_797 (by decide) ?_
        refine g_sub (lv2 := [(8, vI (1)), (0, .ref b), (1, .ref (gw_ad w 0)), (2, vI (snP D)), (3, vI (snN D)), (4, vI (snR D)), (5, vI (k))]) [0, 4, 5, 6, 7, 8, 9] rfl ?_
        exact hend D2 S771 _ _ _ hA2 (by omega) (by omega) (by omega) ⟨by omega, by omega⟩
  refine g_iload (pc := 620) hX 0 rfl dL_law_620 ?_
  refine g_iconst (pc := 622) hX dL_law_622 ?_
  refine g_icmp_ge (pc := 623) (tgt := 641) hX (by first | assumption | exact inI_mk (by omega) (by omega)) (by first | assumption | exact inI_mk (by omega) (by omega)) dL_law_623 (by decide) (fun c_623 => ?_) (fun c_623 => ?_)
  · skip
    refine g_iload (pc := 641) hX 0 rfl dL_law_641 ?_
    refine g_iconst (pc := 643) hX dL_law_643 ?_
    refine g_icmp_ne (pc := 644) (tgt := 661) hX (by first | assumption | exact inI_mk (by omega) (by omega)) (by first | assumption | exact inI_mk (by omega) (by omega)) dL_law_644 (by decide) (fun c_644 => ?_) (fun c_644 => ?_)
    · skip
      refine g_iload (pc := 661) hX 0 rfl dL_law_661 ?_
      refine g_iconst (pc := 663) hX dL_law_663 ?_
      refine g_icmp_ne (pc := 664) (tgt := 683) hX (by first | assumption | exact inI_mk (by omega) (by omega)) (by first | assumption | exact inI_mk (by omega) (by omega)) dL_law_664 (by decide) (fun c_664 => ?_) (fun c_664 => ?_)
      · skip
        refine g_iload (pc := 683) hX 0 rfl dL_law_683 ?_
        refine g_iconst (pc := 685) hX dL_law_685 ?_
        refine g_icmp_ne (pc := 686) (tgt := 701) hX (by first | assumption | exact inI_mk (by omega) (by omega)) (by first | assumption | exact inI_mk (by omega) (by omega)) dL_law_686 (by decide) (fun c_686 => ?_) (fun c_686 => ?_)
        · skip
          refine g_iload (pc := 701) hX 0 rfl dL_law_701 ?_
          refine g_iconst (pc := 703) hX dL_law_703 ?_
          refine g_icmp_ne (pc := 704) (tgt := 720) hX (by first | assumption | exact inI_mk (by omega) (by omega)) (by first | assumption | exact inI_mk (by omega) (by omega)) dL_law_704 (by decide) (fun c_704 => ?_) (fun c_704 => ?_)
          · skip
            refine g_iload (pc := 720) hX 0 rfl dL_law_720 ?_
            refine g_bipush (pc := 722) hX (by decide) dL_law_722 ?_
            refine g_icmp_ne (pc := 724) (tgt := 744) hX (by first | assumption | exact inI_mk (by omega) (by omega)) (by first | assumption | exact inI_mk (by omega) (by omega)) dL_law_724 (by decide) (fun c_724 => ?_) (fun c_724 => ?_)
            · skip
              refine g_iconst (pc := 744) hX dL_law_744 ?_
              refine g_iload (pc := 745) hX 8 rfl dL_law_745 ?_
              refine g_iconst (pc := 747) hX dL_law_747 ?_
              refine g_ishr (pc := 748) hX dL_law_748 ?_
              refine g_sipush (pc := 749) hX (by decide) dL_law_749 ?_
              refine g_callT1 (pc := 752) (As := [vI (shrZ a 3), vI (1000)]) (st2 := [vI (1)]) hX (c_L_up (x := shrZ a 3) (m := 1000) (by omega) (by omega)) gL_law_L_up (n := 2) (hw := rfl) (hrc := rfl) (hrs := rfl) (hd := by decide +kernel) (hR := ⟨Nat.le_of_ble_eq_true rfl, Nat.le_of_ble_eq_true rfl⟩) (hn := rfl) (hst := rfl) (hsum := Nat.le_of_ble_eq_true rfl) (hdg := dL_law_752) ?_
              rintro _ S9 ⟨rfl, e9⟩
              rw [e9]
              clear e9 S9
              refine g_at (pc2 := 755) rfl rfl (st2 := [vI (upZ (shrZ a 3) 1000), vI (1)]) rfl (S2 := S) rfl ?_
              obtain ⟨u7, eu7⟩ : ∃ z : Int, z = upZ (shrZ a 3) 1000 := ⟨_, rfl⟩
              refine g_at rfl rfl (st2 := [vI (u7), vI (1)]) (by rw [eu7]) rfl ?_
              have hu7 : 0 ≤ u7 ∧ u7 < 1000 := by rw [eu7]; exact upZ_b _ (by decide)
              refine g_iadd (pc := 755) hX dL_law_755 ?_
              refine g_sub (lv2 := [(12, vI (wh)), (0, .ref b), (1, .ref (gw_ad w 0)), (2, vI (snP D)), (3, vI (snN D)), (4, vI (snR D)), (5, vI (k))]) [0, 1, 2, 3, 4, 5, 6] rfl ?_
              exact j756 (1 + u7) (so_7 (by omega) (by omega) (by omega))
            · skip
              refine g_sipush (pc := 727) hX (by decide) dL_law_727 ?_
              refine g_iload (pc := 730) hX 8 rfl dL_law_730 ?_
              refine g_iconst (pc := 732) hX dL_law_732 ?_
              refine g_ishr (pc := 733) hX dL_law_733 ?_
              refine g_sipush (pc := 734) hX (by decide) dL_law_734 ?_
              refine g_callT1 (pc := 737) (As := [vI (shrZ a 3), vI (9000)]) (st2 := [vI (1000)]) hX (c_L_up (x := shrZ a 3) (m := 9000) (by omega) (by omega)) gL_law_L_up (n := 2) (hw := rfl) (hrc := rfl) (hrs := rfl) (hd := by decide +kernel) (hR := ⟨Nat.le_of_ble_eq_true rfl, Nat.le_of_ble_eq_true rfl⟩) (hn := rfl) (hst := rfl) (hsum := Nat.le_of_ble_eq_true rfl) (hdg := dL_law_737) ?_
              rintro _ S9 ⟨rfl, e9⟩
              rw [e9]
              clear e9 S9
              refine g_at (pc2 := 740) rfl rfl (st2 := [vI (upZ (shrZ a 3) 9000), vI (1000)]) rfl (S2 := S) rfl ?_
              obtain ⟨u6, eu6⟩ : ∃ z : Int, z = upZ (shrZ a 3) 9000 := ⟨_, rfl⟩
              refine g_at rfl rfl (st2 := [vI (u6), vI (1000)]) (by rw [eu6]) rfl ?_
              have hu6 : 0 ≤ u6 ∧ u6 < 9000 := by rw [eu6]; exact upZ_b _ (by decide)
              refine g_iadd (pc := 740) hX dL_law_740 ?_
              refine g_goto (pc := 741) (tgt := 756) hX dL_law_741 (by decide) ?_
              refine g_sub (lv2 := [(12, vI (wh)), (0, .ref b), (1, .ref (gw_ad w 0)), (2, vI (snP D)), (3, vI (snN D)), (4, vI (snR D)), (5, vI (k))]) [0, 1, 2, 3, 4, 5, 6] rfl ?_
              exact j756 (1000 + u6) (so_6 (by omega) (by omega) (by omega))
          · skip
            refine g_iload (pc := 707) hX 8 rfl dL_law_707 ?_
            refine g_iconst (pc := 709) hX dL_law_709 ?_
            refine g_ishr (pc := 710) hX dL_law_710 ?_
            refine g_sipush (pc := 711) hX (by decide) dL_law_711 ?_
            refine g_callT1 (pc := 714) (As := [vI (shrZ a 3), vI (201)]) (st2 := []) hX (c_L_up (x := shrZ a 3) (m := 201) (by omega) (by omega)) gL_law_L_up (n := 2) (hw := rfl) (hrc := rfl) (hrs := rfl) (hd := by decide +kernel) (hR := ⟨Nat.le_of_ble_eq_true rfl, Nat.le_of_ble_eq_true rfl⟩) (hn := rfl) (hst := rfl) (hsum := Nat.le_of_ble_eq_true rfl) (hdg := dL_law_714) ?_
            rintro _ S9 ⟨rfl, e9⟩
            rw [e9]
            clear e9 S9
            refine g_at (pc2 := 717) rfl rfl (st2 := [vI (upZ (shrZ a 3) 201)]) rfl (S2 := S) rfl ?_
            obtain ⟨u5, eu5⟩ : ∃ z : Int, z = upZ (shrZ a 3) 201 := ⟨_, rfl⟩
            refine g_at rfl rfl (st2 := [vI (u5)]) (by rw [eu5]) rfl ?_
            have hu5 : 0 ≤ u5 ∧ u5 < 201 := by rw [eu5]; exact upZ_b _ (by decide)
            refine g_goto (pc := 717) (tgt := 756) hX dL_law_717 (by decide) ?_
            refine g_sub (lv2 := [(12, vI (wh)), (0, .ref b), (1, .ref (gw_ad w 0)), (2, vI (snP D)), (3, vI (snN D)), (4, vI (snR D)), (5, vI (k))]) [0, 1, 2, 3, 4, 5, 6] rfl ?_
            exact j756 (u5) (so_5 (by omega) (by omega) (by omega))
        · skip
          refine g_iload (pc := 689) hX 8 rfl dL_law_689 ?_
          refine g_iconst (pc := 691) hX dL_law_691 ?_
          refine g_ishr (pc := 692) hX dL_law_692 ?_
          refine g_bipush (pc := 693) hX (by decide) dL_law_693 ?_
          refine g_callT1 (pc := 695) (As := [vI (shrZ a 3), vI (101)]) (st2 := []) hX (c_L_up (x := shrZ a 3) (m := 101) (by omega) (by omega)) gL_law_L_up (n := 2) (hw := rfl) (hrc := rfl) (hrs := rfl) (hd := by decide +kernel) (hR := ⟨Nat.le_of_ble_eq_true rfl, Nat.le_of_ble_eq_true rfl⟩) (hn := rfl) (hst := rfl) (hsum := Nat.le_of_ble_eq_true rfl) (hdg := dL_law_695) ?_
          rintro _ S9 ⟨rfl, e9⟩
          rw [e9]
          clear e9 S9
          refine g_at (pc2 := 698) rfl rfl (st2 := [vI (upZ (shrZ a 3) 101)]) rfl (S2 := S) rfl ?_
          obtain ⟨u4, eu4⟩ : ∃ z : Int, z = upZ (shrZ a 3) 101 := ⟨_, rfl⟩
          refine g_at rfl rfl (st2 := [vI (u4)]) (by rw [eu4]) rfl ?_
          have hu4 : 0 ≤ u4 ∧ u4 < 101 := by rw [eu4]; exact upZ_b _ (by decide)
          refine g_goto (pc := 698) (tgt := 756) hX dL_law_698 (by decide) ?_
          refine g_sub (lv2 := [(12, vI (wh)), (0, .ref b), (1, .ref (gw_ad w 0)), (2, vI (snP D)), (3, vI (snN D)), (4, vI (snR D)), (5, vI (k))]) [0, 1, 2, 3, 4, 5, 6] rfl ?_
          exact j756 (u4) (so_4 (by omega) (by omega) (by omega))
      · skip
        refine g_sipush (pc := 667) hX (by decide) dL_law_667 ?_
        refine g_iload (pc := 670) hX 8 rfl dL_law_670 ?_
        refine g_iconst (pc := 672) hX dL_law_672 ?_
        refine g_ishr (pc := 673) hX dL_law_673 ?_
        refine g_ldc (pc := 674) hX (z := 69001) (List.mem_of_getElem? (i := 8) rfl) (by decide +kernel) dL_law_674 ?_
        refine g_callT1 (pc := 676) (As := [vI (shrZ a 3), vI (69001)]) (st2 := [vI (1000)]) hX (c_L_up (x := shrZ a 3) (m := 69001) (by omega) (by omega)) gL_law_L_up (n := 2) (hw := rfl) (hrc := rfl) (hrs := rfl) (hd := by decide +kernel) (hR := ⟨Nat.le_of_ble_eq_true rfl, Nat.le_of_ble_eq_true rfl⟩) (hn := rfl) (hst := rfl) (hsum := Nat.le_of_ble_eq_true rfl) (hdg := dL_law_676) ?_
        rintro _ S9 ⟨rfl, e9⟩
        rw [e9]
        clear e9 S9
        refine g_at (pc2 := 679) rfl rfl (st2 := [vI (upZ (shrZ a 3) 69001), vI (1000)]) rfl (S2 := S) rfl ?_
        obtain ⟨u3, eu3⟩ : ∃ z : Int, z = upZ (shrZ a 3) 69001 := ⟨_, rfl⟩
        refine g_at rfl rfl (st2 := [vI (u3), vI (1000)]) (by rw [eu3]) rfl ?_
        have hu3 : 0 ≤ u3 ∧ u3 < 69001 := by rw [eu3]; exact upZ_b _ (by decide)
        refine g_iadd (pc := 679) hX dL_law_679 ?_
        refine g_goto (pc := 680) (tgt := 756) hX dL_law_680 (by decide) ?_
        refine g_sub (lv2 := [(12, vI (wh)), (0, .ref b), (1, .ref (gw_ad w 0)), (2, vI (snP D)), (3, vI (snN D)), (4, vI (snR D)), (5, vI (k))]) [0, 1, 2, 3, 4, 5, 6] rfl ?_
        exact j756 (1000 + u3) (so_3 (by omega) (by omega) (by omega))
    · skip
      refine g_iconst (pc := 647) hX dL_law_647 ?_
      refine g_iload (pc := 648) hX 8 rfl dL_law_648 ?_
      refine g_iconst (pc := 650) hX dL_law_650 ?_
      refine g_ishr (pc := 651) hX dL_law_651 ?_
      refine g_bipush (pc := 652) hX (by decide) dL_law_652 ?_
      refine g_callT1 (pc := 654) (As := [vI (shrZ a 3), vI (100)]) (st2 := [vI (1)]) hX (c_L_up (x := shrZ a 3) (m := 100) (by omega) (by omega)) gL_law_L_up (n := 2) (hw := rfl) (hrc := rfl) (hrs := rfl) (hd := by decide +kernel) (hR := ⟨Nat.le_of_ble_eq_true rfl, Nat.le_of_ble_eq_true rfl⟩) (hn := rfl) (hst := rfl) (hsum := Nat.le_of_ble_eq_true rfl) (hdg := dL_law_654) ?_
      rintro _ S9 ⟨rfl, e9⟩
      rw [e9]
      clear e9 S9
      refine g_at (pc2 := 657) rfl rfl (st2 := [vI (upZ (shrZ a 3) 100), vI (1)]) rfl (S2 := S) rfl ?_
      obtain ⟨u2, eu2⟩ : ∃ z : Int, z = upZ (shrZ a 3) 100 := ⟨_, rfl⟩
      refine g_at rfl rfl (st2 := [vI (u2), vI (1)]) (by rw [eu2]) rfl ?_
      have hu2 : 0 ≤ u2 ∧ u2 < 100 := by rw [eu2]; exact upZ_b _ (by decide)
      refine g_iadd (pc := 657) hX dL_law_657 ?_
      refine g_goto (pc := 658) (tgt := 756) hX dL_law_658 (by decide) ?_
      refine g_sub (lv2 := [(12, vI (wh)), (0, .ref b), (1, .ref (gw_ad w 0)), (2, vI (snP D)), (3, vI (snN D)), (4, vI (snR D)), (5, vI (k))]) [0, 1, 2, 3, 4, 5, 6] rfl ?_
      exact j756 (1 + u2) (so_2 (by omega) (by omega) (by omega))
  · skip
    refine g_iload (pc := 626) hX 8 rfl dL_law_626 ?_
    refine g_iconst (pc := 628) hX dL_law_628 ?_
    refine g_ishr (pc := 629) hX dL_law_629 ?_
    refine g_bipush (pc := 630) hX (by decide) dL_law_630 ?_
    refine g_callT1 (pc := 632) (As := [vI (shrZ a 3), vI (41)]) (st2 := []) hX (c_L_up (x := shrZ a 3) (m := 41) (by omega) (by omega)) gL_law_L_up (n := 2) (hw := rfl) (hrc := rfl) (hrs := rfl) (hd := by decide +kernel) (hR := ⟨Nat.le_of_ble_eq_true rfl, Nat.le_of_ble_eq_true rfl⟩) (hn := rfl) (hst := rfl) (hsum := Nat.le_of_ble_eq_true rfl) (hdg := dL_law_632) ?_
    rintro _ S9 ⟨rfl, e9⟩
    rw [e9]
    clear e9 S9
    refine g_at (pc2 := 635) rfl rfl (st2 := [vI (upZ (shrZ a 3) 41)]) rfl (S2 := S) rfl ?_
    obtain ⟨u1, eu1⟩ : ∃ z : Int, z = upZ (shrZ a 3) 41 := ⟨_, rfl⟩
    refine g_at rfl rfl (st2 := [vI (u1)]) (by rw [eu1]) rfl ?_
    have hu1 : 0 ≤ u1 ∧ u1 < 41 := by rw [eu1]; exact upZ_b _ (by decide)
    refine g_bipush (pc := 635) hX (by decide) dL_law_635 ?_
    refine g_isub (pc := 637) hX dL_law_637 ?_
    refine g_goto (pc := 638) (tgt := 756) hX dL_law_638 (by decide) ?_
    refine g_sub (lv2 := [(12, vI (wh)), (0, .ref b), (1, .ref (gw_ad w 0)), (2, vI (snP D)), (3, vI (snN D)), (4, vI (snR D)), (5, vI (k))]) [0, 1, 2, 3, 4, 5, 6] rfl ?_
    exact j756 (u1 - 20) (so_01 (by omega) (by omega) (by omega) (by omega))

set_option maxHeartbeats 4000000 in
set_option maxRecDepth 100000 in
theorem law_zero {w : gW} {X : gX} {b L : Nat} {f : Nat → Int} {S : Nat → va_E} {D : SD} {k q a how : Int} (hX : gOK w room_1 X cL_law 21 RL wsL_law) (hSc : scrT w X b L f) (hL : L ≤ 260) (hf : ∀ j, inI (f j)) (hA : A0 w D S) (hk : 0 ≤ k ∧ k < 30) (hi : snP D ≤ k ∧ sG D 1 ≤ 3 * k)
    (hend : ∀ (D2 : SD) (S2 : Nat → va_E) (P N Q : Int), A0 w D2 S2 → P = snP D2 → N = snN D2 → Q = snR D2 → (snP D2 ≤ k + 1 ∧ sG D2 1 ≤ 3 * k + 3) → G w room_1 X 21 1488 [(8, vI 1), (0, .ref b), (1, .ref (gw_ad w 0)), (2, vI P), (3, vI N), (4, vI Q), (5, vI k)] [] S2) : G w room_1 X 21 806 [(0, .ref b), (1, .ref (gw_ad w 0)), (2, vI (snP D)), (3, vI (snN D)), (4, vI (snR D)), (5, vI (k)), (6, vI (q)), (7, vI (a)), (8, vI (1)), (9, vI (how)), (10, vL (fpZ D))] [] S := by
  have hb := hA.b
  by_cases hz : scSteady (sF D) (sG D) = true ∧ scNear (sF D) (sG D) = true
  · skip
    refine g_aload_n (pc := 806) hX 1 rfl dL_law_806 ?_
    refine g_iconst (pc := 807) hX dL_law_807 ?_
    refine g_callD (pc := 808) (As := [vI (4)]) (st2 := []) hX hA.N hA.e (q_scale4 hA) gL_law_X6_scale (n := 1) (hw := rfl) (hrc := rfl) (hrs := rfl) (hd := by decide +kernel) (hR := ⟨Nat.le_of_ble_eq_true rfl, Nat.le_of_ble_eq_true rfl⟩) (hn := rfl) (hst := rfl) (hsum := Nat.le_of_ble_eq_true rfl) (hdg := dL_law_808) ?_
    rintro _ S9 ⟨rfl, e9⟩
    rw [e9]
    clear e9 S9
    refine g_at (pc2 := 811) rfl rfl (st2 := [vI (sG D 2)]) rfl (S2 := S) rfl ?_
    refine g_istore (pc := 811) hX (lv2 := [(12, vI (sG D 2)), (0, .ref b), (1, .ref (gw_ad w 0)), (2, vI (snP D)), (3, vI (snN D)), (4, vI (snR D)), (5, vI (k)), (6, vI (q)), (7, vI (a)), (8, vI (1)), (9, vI (how)), (10, vL (fpZ D))]) (by decide) rfl dL_law_811 ?_
    refine g_aload_n (pc := 813) hX 2 rfl dL_law_813 ?_
    refine g_iconst (pc := 814) hX dL_law_814 ?_
    refine g_callD (pc := 815) (As := [vI (1)]) (st2 := []) hX hA.N hA.e (q_scale1 hA) gL_law_X6_scale (n := 1) (hw := rfl) (hrc := rfl) (hrs := rfl) (hd := by decide +kernel) (hR := ⟨Nat.le_of_ble_eq_true rfl, Nat.le_of_ble_eq_true rfl⟩) (hn := rfl) (hst := rfl) (hsum := Nat.le_of_ble_eq_true rfl) (hdg := dL_law_815) ?_
    rintro _ S9 ⟨rfl, e9⟩
    rw [e9]
    clear e9 S9
    refine g_at (pc2 := 818) rfl rfl (st2 := [vI (scRaw (sF D) (sG D))]) rfl (S2 := S) rfl ?_
    refine g_istore (pc := 818) hX (lv2 := [(13, vI (scRaw (sF D) (sG D))), (12, vI (sG D 2)), (0, .ref b), (1, .ref (gw_ad w 0)), (2, vI (snP D)), (3, vI (snN D)), (4, vI (snR D)), (5, vI (k)), (6, vI (q)), (7, vI (a)), (8, vI (1)), (9, vI (how)), (10, vL (fpZ D))]) (by decide) rfl dL_law_818 ?_
    refine g_aload_n (pc := 820) hX 3 rfl dL_law_820 ?_
    refine g_bipush (pc := 821) hX (by decide) dL_law_821 ?_
    refine g_callD (pc := 823) (As := [vI (7)]) (st2 := []) hX hA.N hA.e (q_scale7 hA) gL_law_X6_scale (n := 1) (hw := rfl) (hrc := rfl) (hrs := rfl) (hd := by decide +kernel) (hR := ⟨Nat.le_of_ble_eq_true rfl, Nat.le_of_ble_eq_true rfl⟩) (hn := rfl) (hst := rfl) (hsum := Nat.le_of_ble_eq_true rfl) (hdg := dL_law_823) ?_
    rintro _ S9 ⟨rfl, e9⟩
    rw [e9]
    clear e9 S9
    refine g_at (pc2 := 826) rfl rfl (st2 := [vI (bz (scSteady (sF D) (sG D)))]) rfl (S2 := S) rfl ?_
    refine g_iconst (pc := 826) hX dL_law_826 ?_
    refine g_bcmp_ne (pc := 827) (tgt := 853) (a := scSteady (sF D) (sG D)) (b := true) hX dL_law_827 (by decide) (fun c_827 => ?_) (fun c_827 => ?_)
    · skip
      rw [hz.1] at c_827; exact absurd c_827 (by decide)
    · skip
      refine g_iload (pc := 830) hX 0 rfl dL_law_830 ?_
      refine g_iload (pc := 832) hX 1 rfl dL_law_832 ?_
      refine g_isub (pc := 834) hX dL_law_834 ?_
      refine g_callT1 (pc := 835) (As := [vI ((scRaw (sF D) (sG D)) - (sG D 2))]) (st2 := []) hX (c_L_size (x := (scRaw (sF D) (sG D)) - (sG D 2)) (by omega) (by omega)) gL_law_L_size (n := 1) (hw := rfl) (hrc := rfl) (hrs := rfl) (hd := by decide +kernel) (hR := ⟨Nat.le_of_ble_eq_true rfl, Nat.le_of_ble_eq_true rfl⟩) (hn := rfl) (hst := rfl) (hsum := Nat.le_of_ble_eq_true rfl) (hdg := dL_law_835) ?_
      rintro _ S9 ⟨rfl, e9⟩
      rw [e9]
      clear e9 S9
      refine g_at (pc2 := 838) rfl rfl (st2 := [vI (sizeZ ((scRaw (sF D) (sG D)) - (sG D 2)))]) rfl (S2 := S) rfl ?_
      obtain ⟨sz, esz⟩ : ∃ z : Int, z = sizeZ ((scRaw (sF D) (sG D)) - (sG D 2)) := ⟨_, rfl⟩
      refine g_at rfl rfl (st2 := [vI (sz)]) (by rw [esz]) rfl ?_
      have hsz : 0 ≤ sz ∧ sz ≤ 5000000 := by rw [esz]; unfold sizeZ; split <;> omega
      refine g_aload_n (pc := 838) hX 3 rfl dL_law_838 ?_
      refine g_iconst (pc := 839) hX dL_law_839 ?_
      refine g_callD (pc := 840) (As := [vI (3)]) (st2 := [vI (sz)]) hX hA.N hA.e (q_setting hA (i := 3) (by omega) (by omega)) gL_law_X6_setting (n := 1) (hw := rfl) (hrc := rfl) (hrs := rfl) (hd := by decide +kernel) (hR := ⟨Nat.le_of_ble_eq_true rfl, Nat.le_of_ble_eq_true rfl⟩) (hn := rfl) (hst := rfl) (hsum := Nat.le_of_ble_eq_true rfl) (hdg := dL_law_840) ?_
      rintro _ S9 ⟨rfl, e9⟩
      rw [e9]
      clear e9 S9
      refine g_at (pc2 := 843) rfl rfl (st2 := [vI (sF D 3), vI (sz)]) rfl (S2 := S) rfl ?_
      refine g_bipush (pc := 843) hX (by decide) dL_law_843 ?_
      refine g_idiv (pc := 845) hX (by first | assumption | exact inI_mk (by omega) (by omega)) (by first | assumption | exact inI_mk (by omega) (by omega)) (by omega) dL_law_845 ?_
      refine g_at rfl rfl (st2 := [vI (sF D 3 / 20), vI (sz)]) (by rw [show (sF D 3).tdiv (20) = sF D 3 / 20 from Int.tdiv_eq_ediv_of_nonneg (by omega)]) rfl ?_
      refine g_icmp_gt (pc := 846) (tgt := 853) hX (by first | assumption | exact inI_mk (by omega) (by omega)) (by first | assumption | exact inI_mk (by omega) (by omega)) dL_law_846 (by decide) (fun c_846 => ?_) (fun c_846 => ?_)
      · skip
        have hn := of_decide_eq_true hz.2
        rw [zabs_size, ← esz] at hn
        omega
      · skip
        refine g_iconst (pc := 849) hX dL_law_849 ?_
        refine g_goto (pc := 850) (tgt := 854) hX dL_law_850 (by decide) ?_
        refine g_istore (pc := 854) hX (lv2 := [(14, vI (1)), (13, vI (scRaw (sF D) (sG D))), (12, vI (sG D 2)), (0, .ref b), (1, .ref (gw_ad w 0)), (2, vI (snP D)), (3, vI (snN D)), (4, vI (snR D)), (5, vI (k)), (6, vI (q)), (7, vI (a)), (8, vI (1)), (9, vI (how)), (10, vL (fpZ D))]) (by decide) rfl dL_law_854 ?_
        refine g_aload_n (pc := 856) hX 4 rfl dL_law_856 ?_
        refine g_callD (pc := 857) (As := []) (st2 := []) hX hA.N hA.e (q_zero hA hz.1 hz.2) gL_law_X6_zero (n := 0) (hw := rfl) (hrc := rfl) (hrs := rfl) (hd := by decide +kernel) (hR := ⟨Nat.le_of_ble_eq_true rfl, Nat.le_of_ble_eq_true rfl⟩) (hn := rfl) (hst := rfl) (hsum := Nat.le_of_ble_eq_true rfl) (hdg := dL_law_857) ?_
        rintro _ S857 ⟨rfl, D2, hA2, eF, eG, eC, eP, eN, eR⟩
        refine g_at (pc2 := 860) rfl rfl (st2 := [vI (sG D 2)]) rfl (S2 := S857) rfl ?_
        have hb2 := hA2.b
        have eG1 : sG D2 1 = sG D 1 := by rw [eG]; rfl
        have eG2 : sG D2 2 = scRaw (sF D) (sG D) := by rw [eG]; rfl
        have eG3 : sG D2 3 = 0 := by rw [eG]; rfl
        refine g_iload (pc := 860) hX 0 rfl dL_law_860 ?_
        refine g_if_eq (pc := 862) (tgt := 870) hX (by first | assumption | exact inI_mk (by omega) (by omega)) dL_law_862 (by decide) (fun c_862 => ?_) (fun c_862 => ?_)
        · skip
          exact absurd c_862 (by omega)
        · skip
          refine g_iload (pc := 865) hX 2 rfl dL_law_865 ?_
          refine g_goto (pc := 867) (tgt := 872) hX dL_law_867 (by decide) ?_
          refine g_icmp_ne (pc := 872) (tgt := 902) hX (by first | assumption | exact inI_mk (by omega) (by omega)) (by first | assumption | exact inI_mk (by omega) (by omega)) dL_law_872 (by decide) (fun c_872 => ?_) (fun c_872 => ?_)
          · skip
            omega
          · skip
            refine g_iload (pc := 875) hX 0 rfl dL_law_875 ?_
            refine g_if_eq (pc := 877) (tgt := 898) hX (by first | assumption | exact inI_mk (by omega) (by omega)) dL_law_877 (by decide) (fun c_877 => ?_) (fun c_877 => ?_)
            · skip
              exact absurd c_877 (by omega)
            · skip
              refine g_aload_n (pc := 880) hX 4 rfl dL_law_880 ?_
              refine g_iconst (pc := 881) hX dL_law_881 ?_
              refine g_callD (pc := 882) (As := [vI (4)]) (st2 := []) hX hA2.N hA2.e (q_scale4 hA2) gL_law_X6_scale (n := 1) (hw := rfl) (hrc := rfl) (hrs := rfl) (hd := by decide +kernel) (hR := ⟨Nat.le_of_ble_eq_true rfl, Nat.le_of_ble_eq_true rfl⟩) (hn := rfl) (hst := rfl) (hsum := Nat.le_of_ble_eq_true rfl) (hdg := dL_law_882) ?_
              rintro _ S9 ⟨rfl, e9⟩
              rw [e9]
              clear e9 S9
              refine g_at (pc2 := 885) rfl rfl (st2 := [vI (sG D2 2)]) rfl (S2 := S857) rfl ?_
              refine g_iload (pc := 885) hX 1 rfl dL_law_885 ?_
              refine g_icmp_ne (pc := 887) (tgt := 902) hX (by first | assumption | exact inI_mk (by omega) (by omega)) (by first | assumption | exact inI_mk (by omega) (by omega)) dL_law_887 (by decide) (fun c_887 => ?_) (fun c_887 => ?_)
              · skip
                omega
              · skip
                refine g_aload_n (pc := 890) hX 4 rfl dL_law_890 ?_
                refine g_iconst (pc := 891) hX dL_law_891 ?_
                refine g_callD (pc := 892) (As := [vI (5)]) (st2 := []) hX hA2.N hA2.e (q_scale5 hA2) gL_law_X6_scale (n := 1) (hw := rfl) (hrc := rfl) (hrs := rfl) (hd := by decide +kernel) (hR := ⟨Nat.le_of_ble_eq_true rfl, Nat.le_of_ble_eq_true rfl⟩) (hn := rfl) (hst := rfl) (hsum := Nat.le_of_ble_eq_true rfl) (hdg := dL_law_892) ?_
                rintro _ S9 ⟨rfl, e9⟩
                rw [e9]
                clear e9 S9
                refine g_at (pc2 := 895) rfl rfl (st2 := [vI (sG D2 3)]) rfl (S2 := S857) rfl ?_
                refine g_if_ne (pc := 895) (tgt := 902) hX (by first | assumption | exact inI_mk (by omega) (by omega)) dL_law_895 (by decide) (fun c_895 => ?_) (fun c_895 => ?_)
                · skip
                  omega
                · skip
                  refine g_iconst (pc := 898) hX dL_law_898 ?_
                  refine g_goto (pc := 899) (tgt := 903) hX dL_law_899 (by decide) ?_
                  refine g_istore (pc := 903) hX (lv2 := [(8, vI (1)), (14, vI (1)), (13, vI (scRaw (sF D) (sG D))), (12, vI (sG D 2)), (0, .ref b), (1, .ref (gw_ad w 0)), (2, vI (snP D)), (3, vI (snN D)), (4, vI (snR D)), (5, vI (k)), (6, vI (q)), (7, vI (a)), (9, vI (how)), (10, vL (fpZ D))]) (by decide) rfl dL_law_903 ?_
                  refine g_goto (pc := 905) (tgt := 1488) hX dL_law_905 (by decide) ?_
                  refine g_sub (lv2 := [(8, vI (1)), (0, .ref b), (1, .ref (gw_ad w 0)), (2, vI (snP D)), (3, vI (snN D)), (4, vI (snR D)), (5, vI (k))]) [0, 4, 5, 6, 7, 8, 9] rfl ?_
                  exact hend D2 S857 _ _ _ hA2 (by omega) (by omega) (by omega) ⟨by omega, by omega⟩
  · skip
    refine g_aload_n (pc := 806) hX 1 rfl dL_law_806 ?_
    refine g_iconst (pc := 807) hX dL_law_807 ?_
    refine g_callD (pc := 808) (As := [vI (4)]) (st2 := []) hX hA.N hA.e (q_scale4 hA) gL_law_X6_scale (n := 1) (hw := rfl) (hrc := rfl) (hrs := rfl) (hd := by decide +kernel) (hR := ⟨Nat.le_of_ble_eq_true rfl, Nat.le_of_ble_eq_true rfl⟩) (hn := rfl) (hst := rfl) (hsum := Nat.le_of_ble_eq_true rfl) (hdg := dL_law_808) ?_
    rintro _ S9 ⟨rfl, e9⟩
    rw [e9]
    clear e9 S9
    refine g_at (pc2 := 811) rfl rfl (st2 := [vI (sG D 2)]) rfl (S2 := S) rfl ?_
    refine g_istore (pc := 811) hX (lv2 := [(12, vI (sG D 2)), (0, .ref b), (1, .ref (gw_ad w 0)), (2, vI (snP D)), (3, vI (snN D)), (4, vI (snR D)), (5, vI (k)), (6, vI (q)), (7, vI (a)), (8, vI (1)), (9, vI (how)), (10, vL (fpZ D))]) (by decide) rfl dL_law_811 ?_
    refine g_aload_n (pc := 813) hX 2 rfl dL_law_813 ?_
    refine g_iconst (pc := 814) hX dL_law_814 ?_
    refine g_callD (pc := 815) (As := [vI (1)]) (st2 := []) hX hA.N hA.e (q_scale1 hA) gL_law_X6_scale (n := 1) (hw := rfl) (hrc := rfl) (hrs := rfl) (hd := by decide +kernel) (hR := ⟨Nat.le_of_ble_eq_true rfl, Nat.le_of_ble_eq_true rfl⟩) (hn := rfl) (hst := rfl) (hsum := Nat.le_of_ble_eq_true rfl) (hdg := dL_law_815) ?_
    rintro _ S9 ⟨rfl, e9⟩
    rw [e9]
    clear e9 S9
    refine g_at (pc2 := 818) rfl rfl (st2 := [vI (scRaw (sF D) (sG D))]) rfl (S2 := S) rfl ?_
    refine g_istore (pc := 818) hX (lv2 := [(13, vI (scRaw (sF D) (sG D))), (12, vI (sG D 2)), (0, .ref b), (1, .ref (gw_ad w 0)), (2, vI (snP D)), (3, vI (snN D)), (4, vI (snR D)), (5, vI (k)), (6, vI (q)), (7, vI (a)), (8, vI (1)), (9, vI (how)), (10, vL (fpZ D))]) (by decide) rfl dL_law_818 ?_
    have j854 : G w room_1 X 21 854 [(13, vI (scRaw (sF D) (sG D))), (12, vI (sG D 2)), (0, .ref b), (1, .ref (gw_ad w 0)), (2, vI (snP D)), (3, vI (snN D)), (4, vI (snR D)), (5, vI (k))] [vI (0)] S := by
      refine g_istore (pc := 854) hX (lv2 := [(14, vI (0)), (13, vI (scRaw (sF D) (sG D))), (12, vI (sG D 2)), (0, .ref b), (1, .ref (gw_ad w 0)), (2, vI (snP D)), (3, vI (snN D)), (4, vI (snR D)), (5, vI (k))]) (by decide) rfl dL_law_854 ?_
      refine g_aload_n (pc := 856) hX 4 rfl dL_law_856 ?_
      refine g_callD (pc := 857) (As := []) (st2 := []) hX hA.N hA.e (s_zero hA hz) gL_law_X6_zero (n := 0) (hw := rfl) (hrc := rfl) (hrs := rfl) (hd := by decide +kernel) (hR := ⟨Nat.le_of_ble_eq_true rfl, Nat.le_of_ble_eq_true rfl⟩) (hn := rfl) (hst := rfl) (hsum := Nat.le_of_ble_eq_true rfl) (hdg := dL_law_857) ?_
      rintro _ S9 ⟨rfl, e9⟩
      rw [e9]
      clear e9 S9
      refine g_at (pc2 := 860) rfl rfl (st2 := [vI (-1000002)]) rfl (S2 := S) rfl ?_
      refine g_iload (pc := 860) hX 0 rfl dL_law_860 ?_
      refine g_if_eq (pc := 862) (tgt := 870) hX (by first | assumption | exact inI_mk (by omega) (by omega)) dL_law_862 (by decide) (fun c_862 => ?_) (fun c_862 => ?_)
      · skip
        refine g_ldc (pc := 870) hX (z := -1000002) (List.mem_of_getElem? (i := 4) rfl) (by decide +kernel) dL_law_870 ?_
        refine g_icmp_ne (pc := 872) (tgt := 902) hX (by first | assumption | exact inI_mk (by omega) (by omega)) (by first | assumption | exact inI_mk (by omega) (by omega)) dL_law_872 (by decide) (fun c_872 => ?_) (fun c_872 => ?_)
        · skip
          exact absurd c_872 (by omega)
        · skip
          refine g_iload (pc := 875) hX 0 rfl dL_law_875 ?_
          refine g_if_eq (pc := 877) (tgt := 898) hX (by first | assumption | exact inI_mk (by omega) (by omega)) dL_law_877 (by decide) (fun c_877 => ?_) (fun c_877 => ?_)
          · skip
            refine g_iconst (pc := 898) hX dL_law_898 ?_
            refine g_goto (pc := 899) (tgt := 903) hX dL_law_899 (by decide) ?_
            refine g_istore (pc := 903) hX (lv2 := [(8, vI (1)), (14, vI (0)), (13, vI (scRaw (sF D) (sG D))), (12, vI (sG D 2)), (0, .ref b), (1, .ref (gw_ad w 0)), (2, vI (snP D)), (3, vI (snN D)), (4, vI (snR D)), (5, vI (k))]) (by decide) rfl dL_law_903 ?_
            refine g_goto (pc := 905) (tgt := 1488) hX dL_law_905 (by decide) ?_
            refine g_sub (lv2 := [(8, vI (1)), (0, .ref b), (1, .ref (gw_ad w 0)), (2, vI (snP D)), (3, vI (snN D)), (4, vI (snR D)), (5, vI (k))]) [0, 4, 5, 6, 7, 8, 9] rfl ?_
            exact hend D S _ _ _ hA (by omega) (by omega) (by omega) ⟨by omega, by omega⟩
          · skip
            exact absurd c_877 (by omega)
      · skip
        exact absurd c_862 (by omega)
    refine g_aload_n (pc := 820) hX 3 rfl dL_law_820 ?_
    refine g_bipush (pc := 821) hX (by decide) dL_law_821 ?_
    refine g_callD (pc := 823) (As := [vI (7)]) (st2 := []) hX hA.N hA.e (q_scale7 hA) gL_law_X6_scale (n := 1) (hw := rfl) (hrc := rfl) (hrs := rfl) (hd := by decide +kernel) (hR := ⟨Nat.le_of_ble_eq_true rfl, Nat.le_of_ble_eq_true rfl⟩) (hn := rfl) (hst := rfl) (hsum := Nat.le_of_ble_eq_true rfl) (hdg := dL_law_823) ?_
    rintro _ S9 ⟨rfl, e9⟩
    rw [e9]
    clear e9 S9
    refine g_at (pc2 := 826) rfl rfl (st2 := [vI (bz (scSteady (sF D) (sG D)))]) rfl (S2 := S) rfl ?_
    refine g_iconst (pc := 826) hX dL_law_826 ?_
    refine g_bcmp_ne (pc := 827) (tgt := 853) (a := scSteady (sF D) (sG D)) (b := true) hX dL_law_827 (by decide) (fun c_827 => ?_) (fun c_827 => ?_)
    · skip
      refine g_iconst (pc := 853) hX dL_law_853 ?_
      refine g_sub (lv2 := [(13, vI (scRaw (sF D) (sG D))), (12, vI (sG D 2)), (0, .ref b), (1, .ref (gw_ad w 0)), (2, vI (snP D)), (3, vI (snN D)), (4, vI (snR D)), (5, vI (k))]) [0, 1, 2, 3, 4, 5, 6, 7] rfl ?_
      exact j854  
    · skip
      refine g_iload (pc := 830) hX 0 rfl dL_law_830 ?_
      refine g_iload (pc := 832) hX 1 rfl dL_law_832 ?_
      refine g_isub (pc := 834) hX dL_law_834 ?_
      refine g_callT1 (pc := 835) (As := [vI ((scRaw (sF D) (sG D)) - (sG D 2))]) (st2 := []) hX (c_L_size (x := (scRaw (sF D) (sG D)) - (sG D 2)) (by omega) (by omega)) gL_law_L_size (n := 1) (hw := rfl) (hrc := rfl) (hrs := rfl) (hd := by decide +kernel) (hR := ⟨Nat.le_of_ble_eq_true rfl, Nat.le_of_ble_eq_true rfl⟩) (hn := rfl) (hst := rfl) (hsum := Nat.le_of_ble_eq_true rfl) (hdg := dL_law_835) ?_
      rintro _ S9 ⟨rfl, e9⟩
      rw [e9]
      clear e9 S9
      refine g_at (pc2 := 838) rfl rfl (st2 := [vI (sizeZ ((scRaw (sF D) (sG D)) - (sG D 2)))]) rfl (S2 := S) rfl ?_
      obtain ⟨sz, esz⟩ : ∃ z : Int, z = sizeZ ((scRaw (sF D) (sG D)) - (sG D 2)) := ⟨_, rfl⟩
      refine g_at rfl rfl (st2 := [vI (sz)]) (by rw [esz]) rfl ?_
      have hsz : 0 ≤ sz ∧ sz ≤ 5000000 := by rw [esz]; unfold sizeZ; split <;> omega
      refine g_aload_n (pc := 838) hX 3 rfl dL_law_838 ?_
      refine g_iconst (pc := 839) hX dL_law_839 ?_
      refine g_callD (pc := 840) (As := [vI (3)]) (st2 := [vI (sz)]) hX hA.N hA.e (q_setting hA (i := 3) (by omega) (by omega)) gL_law_X6_setting (n := 1) (hw := rfl) (hrc := rfl) (hrs := rfl) (hd := by decide +kernel) (hR := ⟨Nat.le_of_ble_eq_true rfl, Nat.le_of_ble_eq_true rfl⟩) (hn := rfl) (hst := rfl) (hsum := Nat.le_of_ble_eq_true rfl) (hdg := dL_law_840) ?_
      rintro _ S9 ⟨rfl, e9⟩
      rw [e9]
      clear e9 S9
      refine g_at (pc2 := 843) rfl rfl (st2 := [vI (sF D 3), vI (sz)]) rfl (S2 := S) rfl ?_
      refine g_bipush (pc := 843) hX (by decide) dL_law_843 ?_
      refine g_idiv (pc := 845) hX (by first | assumption | exact inI_mk (by omega) (by omega)) (by first | assumption | exact inI_mk (by omega) (by omega)) (by omega) dL_law_845 ?_
      refine g_at rfl rfl (st2 := [vI (sF D 3 / 20), vI (sz)]) (by rw [show (sF D 3).tdiv (20) = sF D 3 / 20 from Int.tdiv_eq_ediv_of_nonneg (by omega)]) rfl ?_
      refine g_icmp_gt (pc := 846) (tgt := 853) hX (by first | assumption | exact inI_mk (by omega) (by omega)) (by first | assumption | exact inI_mk (by omega) (by omega)) dL_law_846 (by decide) (fun c_846 => ?_) (fun c_846 => ?_)
      · skip
        refine g_iconst (pc := 853) hX dL_law_853 ?_
        refine g_sub (lv2 := [(13, vI (scRaw (sF D) (sG D))), (12, vI (sG D 2)), (0, .ref b), (1, .ref (gw_ad w 0)), (2, vI (snP D)), (3, vI (snN D)), (4, vI (snR D)), (5, vI (k))]) [0, 1, 2, 3, 4, 5, 6, 7] rfl ?_
        exact j854  
      · skip
        exact absurd ⟨c_827.symm, (by unfold scNear; rw [zabs_size, ← esz]; exact decide_eq_true (by omega))⟩ hz

set_option maxHeartbeats 4000000 in
set_option maxRecDepth 100000 in
theorem law_tare {w : gW} {X : gX} {b L : Nat} {f : Nat → Int} {S : Nat → va_E} {D : SD} {k q a how : Int} (hX : gOK w room_1 X cL_law 21 RL wsL_law) (hSc : scrT w X b L f) (hL : L ≤ 260) (hf : ∀ j, inI (f j)) (hA : A0 w D S) (hk : 0 ≤ k ∧ k < 30) (hi : snP D ≤ k ∧ sG D 1 ≤ 3 * k)
    (hend : ∀ (D2 : SD) (S2 : Nat → va_E) (P N Q : Int), A0 w D2 S2 → P = snP D2 → N = snN D2 → Q = snR D2 → (snP D2 ≤ k + 1 ∧ sG D2 1 ≤ 3 * k + 3) → G w room_1 X 21 1488 [(8, vI 1), (0, .ref b), (1, .ref (gw_ad w 0)), (2, vI P), (3, vI N), (4, vI Q), (5, vI k)] [] S2) : G w room_1 X 21 915 [(0, .ref b), (1, .ref (gw_ad w 0)), (2, vI (snP D)), (3, vI (snN D)), (4, vI (snR D)), (5, vI (k)), (6, vI (q)), (7, vI (a)), (8, vI (1)), (9, vI (how)), (10, vL (fpZ D))] [] S := by
  have hb := hA.b
  by_cases hz : scSteady (sF D) (sG D) = true ∧ scOver (sF D) (sG D) = false ∧ 0 ≤ scGross (sF D) (sG D)
  · skip
    refine g_aload_n (pc := 915) hX 1 rfl dL_law_915 ?_
    refine g_bipush (pc := 916) hX (by decide) dL_law_916 ?_
    refine g_callD (pc := 918) (As := [vI (7)]) (st2 := []) hX hA.N hA.e (q_scale7 hA) gL_law_X6_scale (n := 1) (hw := rfl) (hrc := rfl) (hrs := rfl) (hd := by decide +kernel) (hR := ⟨Nat.le_of_ble_eq_true rfl, Nat.le_of_ble_eq_true rfl⟩) (hn := rfl) (hst := rfl) (hsum := Nat.le_of_ble_eq_true rfl) (hdg := dL_law_918) ?_
    rintro _ S9 ⟨rfl, e9⟩
    rw [e9]
    clear e9 S9
    refine g_at (pc2 := 921) rfl rfl (st2 := [vI (bz (scSteady (sF D) (sG D)))]) rfl (S2 := S) rfl ?_
    refine g_iconst (pc := 921) hX dL_law_921 ?_
    refine g_bcmp_ne (pc := 922) (tgt := 946) (a := scSteady (sF D) (sG D)) (b := true) hX dL_law_922 (by decide) (fun c_922 => ?_) (fun c_922 => ?_)
    · skip
      rw [hz.1] at c_922; exact absurd c_922 (by decide)
    · skip
      refine g_aload_n (pc := 925) hX 1 rfl dL_law_925 ?_
      refine g_bipush (pc := 926) hX (by decide) dL_law_926 ?_
      refine g_callD (pc := 928) (As := [vI (8)]) (st2 := []) hX hA.N hA.e (q_scale8 hA) gL_law_X6_scale (n := 1) (hw := rfl) (hrc := rfl) (hrs := rfl) (hd := by decide +kernel) (hR := ⟨Nat.le_of_ble_eq_true rfl, Nat.le_of_ble_eq_true rfl⟩) (hn := rfl) (hst := rfl) (hsum := Nat.le_of_ble_eq_true rfl) (hdg := dL_law_928) ?_
      rintro _ S9 ⟨rfl, e9⟩
      rw [e9]
      clear e9 S9
      refine g_at (pc2 := 931) rfl rfl (st2 := [vI (bz (scOver (sF D) (sG D)))]) rfl (S2 := S) rfl ?_
      refine g_bif_ne (pc := 931) (tgt := 946) hX dL_law_931 (by decide) (fun c_931 => ?_) (fun c_931 => ?_)
      · skip
        rw [hz.2.1] at c_931; exact absurd c_931 (by decide)
      · skip
        refine g_aload_n (pc := 934) hX 1 rfl dL_law_934 ?_
        refine g_iconst (pc := 935) hX dL_law_935 ?_
        refine g_callD (pc := 936) (As := [vI (2)]) (st2 := []) hX hA.N hA.e (q_scale2 hA) gL_law_X6_scale (n := 1) (hw := rfl) (hrc := rfl) (hrs := rfl) (hd := by decide +kernel) (hR := ⟨Nat.le_of_ble_eq_true rfl, Nat.le_of_ble_eq_true rfl⟩) (hn := rfl) (hst := rfl) (hsum := Nat.le_of_ble_eq_true rfl) (hdg := dL_law_936) ?_
        rintro _ S9 ⟨rfl, e9⟩
        rw [e9]
        clear e9 S9
        refine g_at (pc2 := 939) rfl rfl (st2 := [vI (scGross (sF D) (sG D))]) rfl (S2 := S) rfl ?_
        refine g_if_lt (pc := 939) (tgt := 946) hX (by first | assumption | exact inI_mk (by omega) (by omega)) dL_law_939 (by decide) (fun c_939 => ?_) (fun c_939 => ?_)
        · skip
          omega
        · skip
          refine g_iconst (pc := 942) hX dL_law_942 ?_
          refine g_goto (pc := 943) (tgt := 947) hX dL_law_943 (by decide) ?_
          refine g_istore (pc := 947) hX (lv2 := [(12, vI (1)), (0, .ref b), (1, .ref (gw_ad w 0)), (2, vI (snP D)), (3, vI (snN D)), (4, vI (snR D)), (5, vI (k)), (6, vI (q)), (7, vI (a)), (8, vI (1)), (9, vI (how)), (10, vL (fpZ D))]) (by decide) rfl dL_law_947 ?_
          refine g_aload_n (pc := 949) hX 2 rfl dL_law_949 ?_
          refine g_iconst (pc := 950) hX dL_law_950 ?_
          refine g_callD (pc := 951) (As := [vI (2)]) (st2 := []) hX hA.N hA.e (q_scale2 hA) gL_law_X6_scale (n := 1) (hw := rfl) (hrc := rfl) (hrs := rfl) (hd := by decide +kernel) (hR := ⟨Nat.le_of_ble_eq_true rfl, Nat.le_of_ble_eq_true rfl⟩) (hn := rfl) (hst := rfl) (hsum := Nat.le_of_ble_eq_true rfl) (hdg := dL_law_951) ?_
          rintro _ S9 ⟨rfl, e9⟩
          rw [e9]
          clear e9 S9
          refine g_at (pc2 := 954) rfl rfl (st2 := [vI (scGross (sF D) (sG D))]) rfl (S2 := S) rfl ?_
          refine g_istore (pc := 954) hX (lv2 := [(13, vI (scGross (sF D) (sG D))), (12, vI (1)), (0, .ref b), (1, .ref (gw_ad w 0)), (2, vI (snP D)), (3, vI (snN D)), (4, vI (snR D)), (5, vI (k)), (6, vI (q)), (7, vI (a)), (8, vI (1)), (9, vI (how)), (10, vL (fpZ D))]) (by decide) rfl dL_law_954 ?_
          refine g_aload_n (pc := 956) hX 3 rfl dL_law_956 ?_
          refine g_callD (pc := 957) (As := []) (st2 := []) hX hA.N hA.e (q_tare hA hz) gL_law_X6_tare (n := 0) (hw := rfl) (hrc := rfl) (hrs := rfl) (hd := by decide +kernel) (hR := ⟨Nat.le_of_ble_eq_true rfl, Nat.le_of_ble_eq_true rfl⟩) (hn := rfl) (hst := rfl) (hsum := Nat.le_of_ble_eq_true rfl) (hdg := dL_law_957) ?_
          rintro _ S957 ⟨rfl, D2, hA2, eF, eG, eC, eP, eN, eR⟩
          refine g_at (pc2 := 960) rfl rfl (st2 := [vI (scGross (sF D) (sG D))]) rfl (S2 := S957) rfl ?_
          have hb2 := hA2.b
          have eG1 : sG D2 1 = sG D 1 := by rw [eG]; rfl
          have eG2 : scGross (sF D2) (sG D2) = scGross (sF D) (sG D) := by rw [eF, eG]; rfl
          have eG3 : sG D2 3 = scGross (sF D) (sG D) := by rw [eG]; rfl
          refine g_iload (pc := 960) hX 1 rfl dL_law_960 ?_
          refine g_if_eq (pc := 962) (tgt := 970) hX (by first | assumption | exact inI_mk (by omega) (by omega)) dL_law_962 (by decide) (fun c_962 => ?_) (fun c_962 => ?_)
          · skip
            exact absurd c_962 (by omega)
          · skip
            refine g_iload (pc := 965) hX 0 rfl dL_law_965 ?_
            refine g_goto (pc := 967) (tgt := 972) hX dL_law_967 (by decide) ?_
            refine g_icmp_ne (pc := 972) (tgt := 992) hX (by first | assumption | exact inI_mk (by omega) (by omega)) (by first | assumption | exact inI_mk (by omega) (by omega)) dL_law_972 (by decide) (fun c_972 => ?_) (fun c_972 => ?_)
            · skip
              omega
            · skip
              refine g_iload (pc := 975) hX 1 rfl dL_law_975 ?_
              refine g_if_eq (pc := 977) (tgt := 988) hX (by first | assumption | exact inI_mk (by omega) (by omega)) dL_law_977 (by decide) (fun c_977 => ?_) (fun c_977 => ?_)
              · skip
                exact absurd c_977 (by omega)
              · skip
                refine g_aload_n (pc := 980) hX 3 rfl dL_law_980 ?_
                refine g_iconst (pc := 981) hX dL_law_981 ?_
                refine g_callD (pc := 982) (As := [vI (3)]) (st2 := []) hX hA2.N hA2.e (q_scale3 hA2) gL_law_X6_scale (n := 1) (hw := rfl) (hrc := rfl) (hrs := rfl) (hd := by decide +kernel) (hR := ⟨Nat.le_of_ble_eq_true rfl, Nat.le_of_ble_eq_true rfl⟩) (hn := rfl) (hst := rfl) (hsum := Nat.le_of_ble_eq_true rfl) (hdg := dL_law_982) ?_
                rintro _ S9 ⟨rfl, e9⟩
                rw [e9]
                clear e9 S9
                refine g_at (pc2 := 985) rfl rfl (st2 := [vI (scGross (sF D2) (sG D2) - sG D2 3)]) rfl (S2 := S957) rfl ?_
                refine g_if_ne (pc := 985) (tgt := 992) hX (by first | assumption | exact inI_mk (by omega) (by omega)) dL_law_985 (by decide) (fun c_985 => ?_) (fun c_985 => ?_)
                · skip
                  omega
                · skip
                  refine g_iconst (pc := 988) hX dL_law_988 ?_
                  refine g_goto (pc := 989) (tgt := 993) hX dL_law_989 (by decide) ?_
                  refine g_istore (pc := 993) hX (lv2 := [(8, vI (1)), (13, vI (scGross (sF D) (sG D))), (12, vI (1)), (0, .ref b), (1, .ref (gw_ad w 0)), (2, vI (snP D)), (3, vI (snN D)), (4, vI (snR D)), (5, vI (k)), (6, vI (q)), (7, vI (a)), (9, vI (how)), (10, vL (fpZ D))]) (by decide) rfl dL_law_993 ?_
                  refine g_goto (pc := 995) (tgt := 1488) hX dL_law_995 (by decide) ?_
                  refine g_sub (lv2 := [(8, vI (1)), (0, .ref b), (1, .ref (gw_ad w 0)), (2, vI (snP D)), (3, vI (snN D)), (4, vI (snR D)), (5, vI (k))]) [0, 3, 4, 5, 6, 7, 8] rfl ?_
                  exact hend D2 S957 _ _ _ hA2 (by omega) (by omega) (by omega) ⟨by omega, by omega⟩
  · skip
    refine g_aload_n (pc := 915) hX 1 rfl dL_law_915 ?_
    have j947 : G w room_1 X 21 947 [(0, .ref b), (1, .ref (gw_ad w 0)), (2, vI (snP D)), (3, vI (snN D)), (4, vI (snR D)), (5, vI (k))] [vI (0)] S := by
      refine g_istore (pc := 947) hX (lv2 := [(12, vI (0)), (0, .ref b), (1, .ref (gw_ad w 0)), (2, vI (snP D)), (3, vI (snN D)), (4, vI (snR D)), (5, vI (k))]) (by decide) rfl dL_law_947 ?_
      refine g_aload_n (pc := 949) hX 2 rfl dL_law_949 ?_
      refine g_iconst (pc := 950) hX dL_law_950 ?_
      refine g_callD (pc := 951) (As := [vI (2)]) (st2 := []) hX hA.N hA.e (q_scale2 hA) gL_law_X6_scale (n := 1) (hw := rfl) (hrc := rfl) (hrs := rfl) (hd := by decide +kernel) (hR := ⟨Nat.le_of_ble_eq_true rfl, Nat.le_of_ble_eq_true rfl⟩) (hn := rfl) (hst := rfl) (hsum := Nat.le_of_ble_eq_true rfl) (hdg := dL_law_951) ?_
      rintro _ S9 ⟨rfl, e9⟩
      rw [e9]
      clear e9 S9
      refine g_at (pc2 := 954) rfl rfl (st2 := [vI (scGross (sF D) (sG D))]) rfl (S2 := S) rfl ?_
      refine g_istore (pc := 954) hX (lv2 := [(13, vI (scGross (sF D) (sG D))), (12, vI (0)), (0, .ref b), (1, .ref (gw_ad w 0)), (2, vI (snP D)), (3, vI (snN D)), (4, vI (snR D)), (5, vI (k))]) (by decide) rfl dL_law_954 ?_
      refine g_aload_n (pc := 956) hX 3 rfl dL_law_956 ?_
      refine g_callD (pc := 957) (As := []) (st2 := []) hX hA.N hA.e (s_tare hA hz) gL_law_X6_tare (n := 0) (hw := rfl) (hrc := rfl) (hrs := rfl) (hd := by decide +kernel) (hR := ⟨Nat.le_of_ble_eq_true rfl, Nat.le_of_ble_eq_true rfl⟩) (hn := rfl) (hst := rfl) (hsum := Nat.le_of_ble_eq_true rfl) (hdg := dL_law_957) ?_
      rintro _ S9 ⟨rfl, e9⟩
      rw [e9]
      clear e9 S9
      refine g_at (pc2 := 960) rfl rfl (st2 := [vI (-1000002)]) rfl (S2 := S) rfl ?_
      refine g_iload (pc := 960) hX 1 rfl dL_law_960 ?_
      refine g_if_eq (pc := 962) (tgt := 970) hX (by first | assumption | exact inI_mk (by omega) (by omega)) dL_law_962 (by decide) (fun c_962 => ?_) (fun c_962 => ?_)
      · skip
        refine g_ldc (pc := 970) hX (z := -1000002) (List.mem_of_getElem? (i := 4) rfl) (by decide +kernel) dL_law_970 ?_
        refine g_icmp_ne (pc := 972) (tgt := 992) hX (by first | assumption | exact inI_mk (by omega) (by omega)) (by first | assumption | exact inI_mk (by omega) (by omega)) dL_law_972 (by decide) (fun c_972 => ?_) (fun c_972 => ?_)
        · skip
          exact absurd c_972 (by omega)
        · skip
          refine g_iload (pc := 975) hX 1 rfl dL_law_975 ?_
          refine g_if_eq (pc := 977) (tgt := 988) hX (by first | assumption | exact inI_mk (by omega) (by omega)) dL_law_977 (by decide) (fun c_977 => ?_) (fun c_977 => ?_)
          · skip
            refine g_iconst (pc := 988) hX dL_law_988 ?_
            refine g_goto (pc := 989) (tgt := 993) hX dL_law_989 (by decide) ?_
            refine g_istore (pc := 993) hX (lv2 := [(8, vI (1)), (13, vI (scGross (sF D) (sG D))), (12, vI (0)), (0, .ref b), (1, .ref (gw_ad w 0)), (2, vI (snP D)), (3, vI (snN D)), (4, vI (snR D)), (5, vI (k))]) (by decide) rfl dL_law_993 ?_
            refine g_goto (pc := 995) (tgt := 1488) hX dL_law_995 (by decide) ?_
            refine g_sub (lv2 := [(8, vI (1)), (0, .ref b), (1, .ref (gw_ad w 0)), (2, vI (snP D)), (3, vI (snN D)), (4, vI (snR D)), (5, vI (k))]) [0, 3, 4, 5, 6, 7, 8] rfl ?_
            exact hend D S _ _ _ hA (by omega) (by omega) (by omega) ⟨by omega, by omega⟩
          · skip
            exact absurd c_977 (by omega)
      · skip
        exact absurd c_962 (by omega)
    refine g_bipush (pc := 916) hX (by decide) dL_law_916 ?_
    refine g_callD (pc := 918) (As := [vI (7)]) (st2 := []) hX hA.N hA.e (q_scale7 hA) gL_law_X6_scale (n := 1) (hw := rfl) (hrc := rfl) (hrs := rfl) (hd := by decide +kernel) (hR := ⟨Nat.le_of_ble_eq_true rfl, Nat.le_of_ble_eq_true rfl⟩) (hn := rfl) (hst := rfl) (hsum := Nat.le_of_ble_eq_true rfl) (hdg := dL_law_918) ?_
    rintro _ S9 ⟨rfl, e9⟩
    rw [e9]
    clear e9 S9
    refine g_at (pc2 := 921) rfl rfl (st2 := [vI (bz (scSteady (sF D) (sG D)))]) rfl (S2 := S) rfl ?_
    refine g_iconst (pc := 921) hX dL_law_921 ?_
    refine g_bcmp_ne (pc := 922) (tgt := 946) (a := scSteady (sF D) (sG D)) (b := true) hX dL_law_922 (by decide) (fun c_922 => ?_) (fun c_922 => ?_)
    · skip
      refine g_iconst (pc := 946) hX dL_law_946 ?_
      refine g_sub (lv2 := [(0, .ref b), (1, .ref (gw_ad w 0)), (2, vI (snP D)), (3, vI (snN D)), (4, vI (snR D)), (5, vI (k))]) [0, 1, 2, 3, 4, 5] rfl ?_
      exact j947  
    · skip
      refine g_aload_n (pc := 925) hX 1 rfl dL_law_925 ?_
      refine g_bipush (pc := 926) hX (by decide) dL_law_926 ?_
      refine g_callD (pc := 928) (As := [vI (8)]) (st2 := []) hX hA.N hA.e (q_scale8 hA) gL_law_X6_scale (n := 1) (hw := rfl) (hrc := rfl) (hrs := rfl) (hd := by decide +kernel) (hR := ⟨Nat.le_of_ble_eq_true rfl, Nat.le_of_ble_eq_true rfl⟩) (hn := rfl) (hst := rfl) (hsum := Nat.le_of_ble_eq_true rfl) (hdg := dL_law_928) ?_
      rintro _ S9 ⟨rfl, e9⟩
      rw [e9]
      clear e9 S9
      refine g_at (pc2 := 931) rfl rfl (st2 := [vI (bz (scOver (sF D) (sG D)))]) rfl (S2 := S) rfl ?_
      refine g_bif_ne (pc := 931) (tgt := 946) hX dL_law_931 (by decide) (fun c_931 => ?_) (fun c_931 => ?_)
      · skip
        refine g_iconst (pc := 946) hX dL_law_946 ?_
        refine g_sub (lv2 := [(0, .ref b), (1, .ref (gw_ad w 0)), (2, vI (snP D)), (3, vI (snN D)), (4, vI (snR D)), (5, vI (k))]) [0, 1, 2, 3, 4, 5] rfl ?_
        exact j947  
      · skip
        refine g_aload_n (pc := 934) hX 1 rfl dL_law_934 ?_
        refine g_iconst (pc := 935) hX dL_law_935 ?_
        refine g_callD (pc := 936) (As := [vI (2)]) (st2 := []) hX hA.N hA.e (q_scale2 hA) gL_law_X6_scale (n := 1) (hw := rfl) (hrc := rfl) (hrs := rfl) (hd := by decide +kernel) (hR := ⟨Nat.le_of_ble_eq_true rfl, Nat.le_of_ble_eq_true rfl⟩) (hn := rfl) (hst := rfl) (hsum := Nat.le_of_ble_eq_true rfl) (hdg := dL_law_936) ?_
        rintro _ S9 ⟨rfl, e9⟩
        rw [e9]
        clear e9 S9
        refine g_at (pc2 := 939) rfl rfl (st2 := [vI (scGross (sF D) (sG D))]) rfl (S2 := S) rfl ?_
        refine g_if_lt (pc := 939) (tgt := 946) hX (by first | assumption | exact inI_mk (by omega) (by omega)) dL_law_939 (by decide) (fun c_939 => ?_) (fun c_939 => ?_)
        · skip
          refine g_iconst (pc := 946) hX dL_law_946 ?_
          refine g_sub (lv2 := [(0, .ref b), (1, .ref (gw_ad w 0)), (2, vI (snP D)), (3, vI (snN D)), (4, vI (snR D)), (5, vI (k))]) [0, 1, 2, 3, 4, 5] rfl ?_
          exact j947  
        · skip
          exact absurd ⟨c_922.symm, c_931, c_939⟩ hz

set_option maxHeartbeats 4000000 in
set_option maxRecDepth 100000 in
theorem law_rule {w : gW} {X : gX} {b L : Nat} {f : Nat → Int} {S : Nat → va_E} {D : SD} {k q a how : Int} (hX : gOK w room_1 X cL_law 21 RL wsL_law) (hSc : scrT w X b L f) (hL : L ≤ 260) (hf : ∀ j, inI (f j)) (hA : A0 w D S) (hk : 0 ≤ k ∧ k < 30) (hi : snP D ≤ k ∧ sG D 1 ≤ 3 * k)
    (hend : ∀ (D2 : SD) (S2 : Nat → va_E) (P N Q : Int), A0 w D2 S2 → P = snP D2 → N = snN D2 → Q = snR D2 → (snP D2 ≤ k + 1 ∧ sG D2 1 ≤ 3 * k + 3) → G w room_1 X 21 1488 [(8, vI 1), (0, .ref b), (1, .ref (gw_ad w 0)), (2, vI P), (3, vI N), (4, vI Q), (5, vI k)] [] S2) : G w room_1 X 21 1005 [(0, .ref b), (1, .ref (gw_ad w 0)), (2, vI (snP D)), (3, vI (snN D)), (4, vI (snR D)), (5, vI (k)), (6, vI (q)), (7, vI (a)), (8, vI (1)), (9, vI (how)), (10, vL (fpZ D))] [] S := by
  have hb := hA.b
  by_cases h8 : snR D < 8
  · skip
    refine g_aload_n (pc := 1005) hX 1 rfl dL_law_1005 ?_
    refine g_iload (pc := 1006) hX 6 rfl dL_law_1006 ?_
    refine g_aload_n (pc := 1008) hX 0 rfl dL_law_1008 ?_
    refine g_bipush (pc := 1009) hX (by decide) dL_law_1009 ?_
    refine g_iload (pc := 1011) hX 5 rfl dL_law_1011 ?_
    refine g_bipush (pc := 1013) hX (by decide) dL_law_1013 ?_
    refine g_irem (pc := 1015) hX (by first | assumption | exact inI_mk (by omega) (by omega)) (by first | assumption | exact inI_mk (by omega) (by omega)) (by omega) dL_law_1015 ?_
    refine g_at rfl rfl (st2 := [vI (k % 8), vI (30), .ref b, vI (q), .ref (gw_ad w 0)]) (by rw [show (k).tmod (8) = k % 8 from Int.tmod_eq_emod_of_nonneg (by omega)]) rfl ?_
    refine g_iadd (pc := 1016) hX dL_law_1016 ?_
    refine g_callTs (pc := 1017) (As := [.ref b, vI (30 + (k % 8))]) (st2 := [vI (q), .ref (gw_ad w 0)]) hX hSc (c_L_cell hL hf (i := 30 + (k % 8)) (by omega) (by omega)) gL_law_L_cell (n := 2) (hw := rfl) (hrc := rfl) (hrs := rfl) (hd := by decide +kernel) (hR := ⟨Nat.le_of_ble_eq_true rfl, Nat.le_of_ble_eq_true rfl⟩) (hn := rfl) (hst := rfl) (hsum := Nat.le_of_ble_eq_true rfl) (hdg := dL_law_1017) ?_
    rintro _ S9 ⟨x, rfl, hx, e9⟩
    rw [e9]
    clear e9 S9
    refine g_at (pc2 := 1020) rfl rfl (st2 := [vI (x), vI (q), .ref (gw_ad w 0)]) rfl (S2 := S) rfl ?_
    refine g_callT1 (pc := 1020) (As := [.ref (gw_ad w 0), vI (q), vI (x)]) (st2 := []) hX (c_L_rule hA (q := q) (p := x)) gL_law_L_rule (n := 3) (hw := rfl) (hrc := rfl) (hrs := rfl) (hd := by decide +kernel) (hR := ⟨Nat.le_of_ble_eq_true rfl, Nat.le_of_ble_eq_true rfl⟩) (hn := rfl) (hst := rfl) (hsum := Nat.le_of_ble_eq_true rfl) (hdg := dL_law_1020) ?_
    rintro v20 S1020 h20
    obtain ⟨-, rfl, D2, hA1020, eG, eC, eP, eN, eR⟩ := h20.resolve_right (fun q => q.1 h8)
    refine g_at (pc2 := 1023) rfl rfl (st2 := [vI (snR D + 1)]) rfl (S2 := S1020) rfl ?_
    have eG1 : sG D2 1 = sG D 1 := by rw [eG]
    have hb2 := hA1020.b
    refine g_istore (pc := 1023) hX (lv2 := [(12, vI (snR D + 1)), (0, .ref b), (1, .ref (gw_ad w 0)), (2, vI (snP D)), (3, vI (snN D)), (4, vI (snR D)), (5, vI (k)), (6, vI (q)), (7, vI (a)), (8, vI (1)), (9, vI (how)), (10, vL (fpZ D))]) (by decide) rfl dL_law_1023 ?_
    refine g_iload (pc := 1025) hX 5 rfl dL_law_1025 ?_
    refine g_bipush (pc := 1027) hX (by decide) dL_law_1027 ?_
    refine g_icmp_ne (pc := 1029) (tgt := 1054) hX (by first | assumption | exact inI_mk (by omega) (by omega)) (by first | assumption | exact inI_mk (by omega) (by omega)) dL_law_1029 (by decide) (fun c_1029 => ?_) (fun c_1029 => ?_)
    · skip
      refine g_iload (pc := 1054) hX 0 rfl dL_law_1054 ?_
      refine g_iload (pc := 1056) hX 5 rfl dL_law_1056 ?_
      refine g_iconst (pc := 1058) hX dL_law_1058 ?_
      refine g_iadd (pc := 1059) hX dL_law_1059 ?_
      refine g_icmp_ne (pc := 1060) (tgt := 1067) hX (by first | assumption | exact inI_mk (by omega) (by omega)) (by first | assumption | exact inI_mk (by omega) (by omega)) dL_law_1060 (by decide) (fun c_1060 => ?_) (fun c_1060 => ?_)
      · skip
        omega
      · skip
        refine g_iconst (pc := 1063) hX dL_law_1063 ?_
        refine g_goto (pc := 1064) (tgt := 1068) hX dL_law_1064 (by decide) ?_
        refine g_istore (pc := 1068) hX (lv2 := [(8, vI (1)), (12, vI (snR D + 1)), (0, .ref b), (1, .ref (gw_ad w 0)), (2, vI (snP D)), (3, vI (snN D)), (4, vI (snR D)), (5, vI (k)), (6, vI (q)), (7, vI (a)), (9, vI (how)), (10, vL (fpZ D))]) (by decide) rfl dL_law_1068 ?_
        refine g_aload_n (pc := 1070) hX 3 rfl dL_law_1070 ?_
        refine g_callD (pc := 1071) (As := []) (st2 := []) hX hA1020.N hA1020.e (q_rules hA1020) gL_law_X6_rules (n := 0) (hw := rfl) (hrc := rfl) (hrs := rfl) (hd := by decide +kernel) (hR := ⟨Nat.le_of_ble_eq_true rfl, Nat.le_of_ble_eq_true rfl⟩) (hn := rfl) (hst := rfl) (hsum := Nat.le_of_ble_eq_true rfl) (hdg := dL_law_1071) ?_
        rintro _ S9 ⟨rfl, e9⟩
        rw [e9]
        clear e9 S9
        refine g_at (pc2 := 1074) rfl rfl (st2 := [vI (snR D2)]) rfl (S2 := S1020) rfl ?_
        refine g_istore (pc := 1074) hX (lv2 := [(4, vI (snR D2)), (8, vI (1)), (12, vI (snR D + 1)), (0, .ref b), (1, .ref (gw_ad w 0)), (2, vI (snP D)), (3, vI (snN D)), (5, vI (k)), (6, vI (q)), (7, vI (a)), (9, vI (how)), (10, vL (fpZ D))]) (by decide) rfl dL_law_1074 ?_
        refine g_goto (pc := 1076) (tgt := 1488) hX dL_law_1076 (by decide) ?_
        refine g_sub (lv2 := [(8, vI (1)), (0, .ref b), (1, .ref (gw_ad w 0)), (2, vI (snP D)), (3, vI (snN D)), (4, vI (snR D2)), (5, vI (k))]) [1, 3, 4, 5, 6, 0, 7] rfl ?_
        exact hend D2 S1020 _ _ _ hA1020 (by omega) (by omega) (by omega) ⟨by omega, by omega⟩
    · skip
      omega
  · skip
    refine g_aload_n (pc := 1005) hX 1 rfl dL_law_1005 ?_
    refine g_iload (pc := 1006) hX 6 rfl dL_law_1006 ?_
    refine g_aload_n (pc := 1008) hX 0 rfl dL_law_1008 ?_
    refine g_bipush (pc := 1009) hX (by decide) dL_law_1009 ?_
    refine g_iload (pc := 1011) hX 5 rfl dL_law_1011 ?_
    refine g_bipush (pc := 1013) hX (by decide) dL_law_1013 ?_
    refine g_irem (pc := 1015) hX (by first | assumption | exact inI_mk (by omega) (by omega)) (by first | assumption | exact inI_mk (by omega) (by omega)) (by omega) dL_law_1015 ?_
    refine g_at rfl rfl (st2 := [vI (k % 8), vI (30), .ref b, vI (q), .ref (gw_ad w 0)]) (by rw [show (k).tmod (8) = k % 8 from Int.tmod_eq_emod_of_nonneg (by omega)]) rfl ?_
    refine g_iadd (pc := 1016) hX dL_law_1016 ?_
    refine g_callTs (pc := 1017) (As := [.ref b, vI (30 + (k % 8))]) (st2 := [vI (q), .ref (gw_ad w 0)]) hX hSc (c_L_cell hL hf (i := 30 + (k % 8)) (by omega) (by omega)) gL_law_L_cell (n := 2) (hw := rfl) (hrc := rfl) (hrs := rfl) (hd := by decide +kernel) (hR := ⟨Nat.le_of_ble_eq_true rfl, Nat.le_of_ble_eq_true rfl⟩) (hn := rfl) (hst := rfl) (hsum := Nat.le_of_ble_eq_true rfl) (hdg := dL_law_1017) ?_
    rintro _ S9 ⟨x, rfl, hx, e9⟩
    rw [e9]
    clear e9 S9
    refine g_at (pc2 := 1020) rfl rfl (st2 := [vI (x), vI (q), .ref (gw_ad w 0)]) rfl (S2 := S) rfl ?_
    refine g_callT1 (pc := 1020) (As := [.ref (gw_ad w 0), vI (q), vI (x)]) (st2 := []) hX (c_L_rule hA (q := q) (p := x)) gL_law_L_rule (n := 3) (hw := rfl) (hrc := rfl) (hrs := rfl) (hd := by decide +kernel) (hR := ⟨Nat.le_of_ble_eq_true rfl, Nat.le_of_ble_eq_true rfl⟩) (hn := rfl) (hst := rfl) (hsum := Nat.le_of_ble_eq_true rfl) (hdg := dL_law_1020) ?_
    rintro v20 S1020 h20
    obtain ⟨-, rfl, ty, dg, hty, hA1020⟩ := h20.resolve_left (fun q => h8 q.1)
    refine g_at (pc2 := 1023) rfl rfl (st2 := [vI (-1000003)]) rfl (S2 := S1020) rfl ?_
    have hty2 := hA1020.ty
    refine g_istore (pc := 1023) hX (lv2 := [(12, vI (-1000003)), (0, .ref b), (1, .ref (gw_ad w 0)), (2, vI (snP D)), (3, vI (snN D)), (4, vI (snR D)), (5, vI (k)), (6, vI (q)), (7, vI (a)), (8, vI (1)), (9, vI (how)), (10, vL (fpZ D))]) (by decide) rfl dL_law_1023 ?_
    refine g_iload (pc := 1025) hX 5 rfl dL_law_1025 ?_
    refine g_bipush (pc := 1027) hX (by decide) dL_law_1027 ?_
    refine g_icmp_ne (pc := 1029) (tgt := 1054) hX (by first | assumption | exact inI_mk (by omega) (by omega)) (by first | assumption | exact inI_mk (by omega) (by omega)) dL_law_1029 (by decide) (fun c_1029 => ?_) (fun c_1029 => ?_)
    · skip
      omega
    · skip
      refine g_iload (pc := 1032) hX 0 rfl dL_law_1032 ?_
      refine g_ldc (pc := 1034) hX (z := -1000003) (List.mem_of_getElem? (i := 5) rfl) (by decide +kernel) dL_law_1034 ?_
      refine g_icmp_ne (pc := 1036) (tgt := 1050) hX (by first | assumption | exact inI_mk (by omega) (by omega)) (by first | assumption | exact inI_mk (by omega) (by omega)) dL_law_1036 (by decide) (fun c_1036 => ?_) (fun c_1036 => ?_)
      · skip
        exact absurd c_1036 (by omega)
      · skip
        refine g_aload_n (pc := 1039) hX 2 rfl dL_law_1039 ?_
        refine g_callD (pc := 1040) (As := []) (st2 := []) hX hA1020.N hA1020.e (q_clear hA1020) gL_law_X6_clear (n := 0) (hw := rfl) (hrc := rfl) (hrs := rfl) (hd := by decide +kernel) (hR := ⟨Nat.le_of_ble_eq_true rfl, Nat.le_of_ble_eq_true rfl⟩) (hn := rfl) (hst := rfl) (hsum := Nat.le_of_ble_eq_true rfl) (hdg := dL_law_1040) ?_
        rintro _ S1040 ⟨rfl, hA1040⟩
        refine g_at (pc2 := 1043) rfl rfl (st2 := [vI (ty)]) rfl (S2 := S1040) rfl ?_
        refine g_if_le (pc := 1043) (tgt := 1050) hX (by first | assumption | exact inI_mk (by omega) (by omega)) dL_law_1043 (by decide) (fun c_1043 => ?_) (fun c_1043 => ?_)
        · skip
          omega
        · skip
          refine g_iconst (pc := 1046) hX dL_law_1046 ?_
          refine g_goto (pc := 1047) (tgt := 1068) hX dL_law_1047 (by decide) ?_
          refine g_istore (pc := 1068) hX (lv2 := [(8, vI (1)), (12, vI (-1000003)), (0, .ref b), (1, .ref (gw_ad w 0)), (2, vI (snP D)), (3, vI (snN D)), (4, vI (snR D)), (5, vI (k)), (6, vI (q)), (7, vI (a)), (9, vI (how)), (10, vL (fpZ D))]) (by decide) rfl dL_law_1068 ?_
          refine g_aload_n (pc := 1070) hX 3 rfl dL_law_1070 ?_
          refine g_callD (pc := 1071) (As := []) (st2 := []) hX hA1040.N hA1040.e (q_rules hA1040) gL_law_X6_rules (n := 0) (hw := rfl) (hrc := rfl) (hrs := rfl) (hd := by decide +kernel) (hR := ⟨Nat.le_of_ble_eq_true rfl, Nat.le_of_ble_eq_true rfl⟩) (hn := rfl) (hst := rfl) (hsum := Nat.le_of_ble_eq_true rfl) (hdg := dL_law_1071) ?_
          rintro _ S9 ⟨rfl, e9⟩
          rw [e9]
          clear e9 S9
          refine g_at (pc2 := 1074) rfl rfl (st2 := [vI (snR D)]) rfl (S2 := S1040) rfl ?_
          refine g_istore (pc := 1074) hX (lv2 := [(4, vI (snR D)), (8, vI (1)), (12, vI (-1000003)), (0, .ref b), (1, .ref (gw_ad w 0)), (2, vI (snP D)), (3, vI (snN D)), (5, vI (k)), (6, vI (q)), (7, vI (a)), (9, vI (how)), (10, vL (fpZ D))]) (by decide) rfl dL_law_1074 ?_
          refine g_goto (pc := 1076) (tgt := 1488) hX dL_law_1076 (by decide) ?_
          refine g_sub (lv2 := [(8, vI (1)), (0, .ref b), (1, .ref (gw_ad w 0)), (2, vI (snP D)), (3, vI (snN D)), (4, vI (snR D)), (5, vI (k))]) [1, 3, 4, 5, 6, 0, 7] rfl ?_
          exact hend D S1040 _ _ _ hA1040 (by omega) (by omega) (by omega) ⟨by omega, by omega⟩

set_option maxHeartbeats 4000000 in
set_option maxRecDepth 100000 in
theorem law_unband {w : gW} {X : gX} {b L : Nat} {f : Nat → Int} {S : Nat → va_E} {D : SD} {k q a how : Int} (hX : gOK w room_1 X cL_law 21 RL wsL_law) (hSc : scrT w X b L f) (hL : L ≤ 260) (hf : ∀ j, inI (f j)) (hA : A0 w D S) (hk : 0 ≤ k ∧ k < 30) (hi : snP D ≤ k ∧ sG D 1 ≤ 3 * k)
    (hend : ∀ (D2 : SD) (S2 : Nat → va_E) (P N Q : Int), A0 w D2 S2 → P = snP D2 → N = snN D2 → Q = snR D2 → (snP D2 ≤ k + 1 ∧ sG D2 1 ≤ 3 * k + 3) → G w room_1 X 21 1488 [(8, vI 1), (0, .ref b), (1, .ref (gw_ad w 0)), (2, vI P), (3, vI N), (4, vI Q), (5, vI k)] [] S2) : G w room_1 X 21 1086 [(0, .ref b), (1, .ref (gw_ad w 0)), (2, vI (snP D)), (3, vI (snN D)), (4, vI (snR D)), (5, vI (k)), (6, vI (q)), (7, vI (a)), (8, vI (1)), (9, vI (how)), (10, vL (fpZ D))] [] S := by
  have hb := hA.b
  refine g_iload (pc := 1086) hX 7 rfl dL_law_1086 ?_
  refine g_iconst (pc := 1088) hX dL_law_1088 ?_
  refine g_callT1 (pc := 1089) (As := [vI (a), vI (4)]) (st2 := []) hX (c_L_up (x := a) (m := 4) (by omega) (by omega)) gL_law_L_up (n := 2) (hw := rfl) (hrc := rfl) (hrs := rfl) (hd := by decide +kernel) (hR := ⟨Nat.le_of_ble_eq_true rfl, Nat.le_of_ble_eq_true rfl⟩) (hn := rfl) (hst := rfl) (hsum := Nat.le_of_ble_eq_true rfl) (hdg := dL_law_1089) ?_
  rintro _ S9 ⟨rfl, e9⟩
  rw [e9]
  clear e9 S9
  refine g_at (pc2 := 1092) rfl rfl (st2 := [vI (upZ a 4)]) rfl (S2 := S) rfl ?_
  obtain ⟨z, ez⟩ : ∃ z : Int, z = upZ a 4 := ⟨_, rfl⟩
  refine g_at rfl rfl (st2 := [vI (z)]) (by rw [ez]) rfl ?_
  have hz : 0 ≤ z ∧ z < 4 := by rw [ez]; exact upZ_b _ (by decide)
  refine g_istore (pc := 1092) hX (lv2 := [(12, vI (z)), (0, .ref b), (1, .ref (gw_ad w 0)), (2, vI (snP D)), (3, vI (snN D)), (4, vI (snR D)), (5, vI (k)), (6, vI (q)), (7, vI (a)), (8, vI (1)), (9, vI (how)), (10, vL (fpZ D))]) (by decide) rfl dL_law_1092 ?_
  refine g_aload_n (pc := 1094) hX 2 rfl dL_law_1094 ?_
  refine g_iload (pc := 1095) hX 0 rfl dL_law_1095 ?_
  refine g_iload (pc := 1097) hX 8 rfl dL_law_1097 ?_
  refine g_iconst (pc := 1099) hX dL_law_1099 ?_
  refine g_ishr (pc := 1100) hX dL_law_1100 ?_
  refine g_iconst (pc := 1101) hX dL_law_1101 ?_
  refine g_callT1 (pc := 1102) (As := [vI (shrZ a 2), vI (2)]) (st2 := [vI (z), .ref (gw_ad w 0)]) hX (c_L_up (x := shrZ a 2) (m := 2) (by omega) (by omega)) gL_law_L_up (n := 2) (hw := rfl) (hrc := rfl) (hrs := rfl) (hd := by decide +kernel) (hR := ⟨Nat.le_of_ble_eq_true rfl, Nat.le_of_ble_eq_true rfl⟩) (hn := rfl) (hst := rfl) (hsum := Nat.le_of_ble_eq_true rfl) (hdg := dL_law_1102) ?_
  rintro _ S9 ⟨rfl, e9⟩
  rw [e9]
  clear e9 S9
  refine g_at (pc2 := 1105) rfl rfl (st2 := [vI (upZ (shrZ a 2) 2), vI (z), .ref (gw_ad w 0)]) rfl (S2 := S) rfl ?_
  obtain ⟨ix, eix⟩ : ∃ z : Int, z = upZ (shrZ a 2) 2 := ⟨_, rfl⟩
  refine g_at rfl rfl (st2 := [vI (ix), vI (z), .ref (gw_ad w 0)]) (by rw [eix]) rfl ?_
  have hix : 0 ≤ ix ∧ ix < 2 := by rw [eix]; exact upZ_b _ (by decide)
  by_cases hc : ix < sC D z
  · skip
    refine g_callD (pc := 1105) (As := [vI (z), vI (ix)]) (st2 := []) hX hA.N hA.e (q_unband hA (z := z) (i := ix) (by omega) (by omega) (by omega) hc) gL_law_X6_unband (n := 2) (hw := rfl) (hrc := rfl) (hrs := rfl) (hd := by decide +kernel) (hR := ⟨Nat.le_of_ble_eq_true rfl, Nat.le_of_ble_eq_true rfl⟩) (hn := rfl) (hst := rfl) (hsum := Nat.le_of_ble_eq_true rfl) (hdg := dL_law_1105) ?_
    rintro _ S1105 ⟨rfl, hU⟩
    refine g_at (pc2 := 1108) rfl rfl (st2 := [vI (sC D z - 1)]) rfl (S2 := S1105) rfl ?_
    refine g_istore (pc := 1108) hX (lv2 := [(13, vI (sC D z - 1)), (12, vI (z)), (0, .ref b), (1, .ref (gw_ad w 0)), (2, vI (snP D)), (3, vI (snN D)), (4, vI (snR D)), (5, vI (k)), (6, vI (q)), (7, vI (a)), (8, vI (1)), (9, vI (how)), (10, vL (fpZ D))]) (by decide) rfl dL_law_1108 ?_
    refine g_iload (pc := 1110) hX 0 rfl dL_law_1110 ?_
    refine g_ldc (pc := 1112) hX (z := -1000001) (List.mem_of_getElem? (i := 6) rfl) (by decide +kernel) dL_law_1112 ?_
    refine g_icmp_ne (pc := 1114) (tgt := 1135) hX (by have := hA.cnt (z := z) (by omega) (by omega); exact inI_mk (by omega) (by omega)) (by first | assumption | exact inI_mk (by omega) (by omega)) dL_law_1114 (by decide) (fun c_1114 => ?_) (fun c_1114 => ?_)
    · skip
      refine g_iload (pc := 1135) hX 0 rfl dL_law_1135 ?_
      refine g_if_lt (pc := 1137) (tgt := 1168) hX (by have := hA.cnt (z := z) (by omega) (by omega); exact inI_mk (by omega) (by omega)) dL_law_1137 (by decide) (fun c_1137 => ?_) (fun c_1137 => ?_)
      · skip
        omega
      · skip
        refine g_iload (pc := 1140) hX 0 rfl dL_law_1140 ?_
        refine g_bipush (pc := 1142) hX (by decide) dL_law_1142 ?_
        refine g_icmp_ge (pc := 1144) (tgt := 1168) hX (by have := hA.cnt (z := z) (by omega) (by omega); exact inI_mk (by omega) (by omega)) (by first | assumption | exact inI_mk (by omega) (by omega)) dL_law_1144 (by decide) (fun c_1144 => ?_) (fun c_1144 => ?_)
        · skip
          have := hA.cnt (z := z) (by omega) (by omega); omega
        · skip
          refine g_aload_n (pc := 1147) hX 3 rfl dL_law_1147 ?_
          refine g_callD (pc := 1148) (As := []) (st2 := []) hX hU.N hU.e (q_undo hU) gL_law_X6_undo (n := 0) (hw := rfl) (hrc := rfl) (hrs := rfl) (hd := by decide +kernel) (hR := ⟨Nat.le_of_ble_eq_true rfl, Nat.le_of_ble_eq_true rfl⟩) (hn := rfl) (hst := rfl) (hsum := Nat.le_of_ble_eq_true rfl) (hdg := dL_law_1148) ?_
          rintro _ S1148 ⟨r, rfl, hr, D2, hA1148, ag⟩
          refine g_at (pc2 := 1151) rfl rfl (st2 := [vI (r)]) rfl (S2 := S1148) rfl ?_
          have eG1 : sG D2 1 = sG D 1 := by rw [ag.2.1]
          have eP : snP D2 = snP D := ag.2.2.2.2.1.1
          have eN : snN D2 = snN D := ag.2.2.2.2.2.1.1
          have eR : snR D2 = snR D := ag.2.2.2.1.1
          refine g_if_lt (pc := 1151) (tgt := 1168) hX (by first | assumption | exact inI_mk (by omega) (by omega)) dL_law_1151 (by decide) (fun c_1151 => ?_) (fun c_1151 => ?_)
          · skip
            omega
          · skip
            refine g_aload_n (pc := 1154) hX 3 rfl dL_law_1154 ?_
            refine g_callD (pc := 1155) (As := []) (st2 := []) hX hA1148.N hA1148.e (q_fingerprint hA1148) gL_law_X6_fingerprint (n := 0) (hw := rfl) (hrc := rfl) (hrs := rfl) (hd := by decide +kernel) (hR := ⟨Nat.le_of_ble_eq_true rfl, Nat.le_of_ble_eq_true rfl⟩) (hn := rfl) (hst := rfl) (hsum := Nat.le_of_ble_eq_true rfl) (hdg := dL_law_1155) ?_
            rintro _ S9 ⟨rfl, e9⟩
            rw [e9]
            clear e9 S9
            refine g_at (pc2 := 1158) rfl rfl (st2 := [vL (fpZ D2)]) rfl (S2 := S1148) rfl ?_
            refine g_lload (pc := 1158) hX 12 rfl dL_law_1158 ?_
            refine g_lcmp_same (pc := 1160) (tgt := 1168) hX (a := fpZ D2) (b := fpZ D) (fpZ_ag hA.ok.1 ag) dL_law_1160 dL_law_1161 (by decide) ?_
            refine g_iconst (pc := 1164) hX dL_law_1164 ?_
            refine g_goto (pc := 1165) (tgt := 1169) hX dL_law_1165 (by decide) ?_
            refine g_istore (pc := 1169) hX (lv2 := [(8, vI (1)), (13, vI (sC D z - 1)), (12, vI (z)), (0, .ref b), (1, .ref (gw_ad w 0)), (2, vI (snP D)), (3, vI (snN D)), (4, vI (snR D)), (5, vI (k)), (6, vI (q)), (7, vI (a)), (9, vI (how)), (10, vL (fpZ D))]) (by decide) rfl dL_law_1169 ?_
            refine g_goto (pc := 1171) (tgt := 1488) hX dL_law_1171 (by decide) ?_
            refine g_sub (lv2 := [(8, vI (1)), (0, .ref b), (1, .ref (gw_ad w 0)), (2, vI (snP D)), (3, vI (snN D)), (4, vI (snR D)), (5, vI (k))]) [0, 3, 4, 5, 6, 7, 8] rfl ?_
            exact hend D2 S1148 _ _ _ hA1148 (by omega) (by omega) (by omega) ⟨by omega, by omega⟩
    · skip
      have := hA.cnt (z := z) (by omega) (by omega); omega
  · skip
    refine g_callD (pc := 1105) (As := [vI (z), vI (ix)]) (st2 := []) hX hA.N hA.e (x_unband hA (z := z) (i := ix) (inI_mk (by omega) (by omega)) (inI_mk (by omega) (by omega)) (by omega)) gL_law_X6_unband (n := 2) (hw := rfl) (hrc := rfl) (hrs := rfl) (hd := by decide +kernel) (hR := ⟨Nat.le_of_ble_eq_true rfl, Nat.le_of_ble_eq_true rfl⟩) (hn := rfl) (hst := rfl) (hsum := Nat.le_of_ble_eq_true rfl) (hdg := dL_law_1105) ?_
    rintro _ S9 ⟨rfl, e9⟩
    rw [e9]
    clear e9 S9
    refine g_at (pc2 := 1108) rfl rfl (st2 := [vI (-1000001)]) rfl (S2 := S) rfl ?_
    refine g_istore (pc := 1108) hX (lv2 := [(13, vI (-1000001)), (12, vI (z)), (0, .ref b), (1, .ref (gw_ad w 0)), (2, vI (snP D)), (3, vI (snN D)), (4, vI (snR D)), (5, vI (k)), (6, vI (q)), (7, vI (a)), (8, vI (1)), (9, vI (how)), (10, vL (fpZ D))]) (by decide) rfl dL_law_1108 ?_
    refine g_iload (pc := 1110) hX 0 rfl dL_law_1110 ?_
    refine g_ldc (pc := 1112) hX (z := -1000001) (List.mem_of_getElem? (i := 6) rfl) (by decide +kernel) dL_law_1112 ?_
    refine g_icmp_ne (pc := 1114) (tgt := 1135) hX (by have := hA.cnt (z := z) (by omega) (by omega); exact inI_mk (by omega) (by omega)) (by first | assumption | exact inI_mk (by omega) (by omega)) dL_law_1114 (by decide) (fun c_1114 => ?_) (fun c_1114 => ?_)
    · skip
      exact absurd c_1114 (by omega)
    · skip
      refine g_aload_n (pc := 1117) hX 3 rfl dL_law_1117 ?_
      refine g_callD (pc := 1118) (As := []) (st2 := []) hX hA.N hA.e (q_fingerprint hA) gL_law_X6_fingerprint (n := 0) (hw := rfl) (hrc := rfl) (hrs := rfl) (hd := by decide +kernel) (hR := ⟨Nat.le_of_ble_eq_true rfl, Nat.le_of_ble_eq_true rfl⟩) (hn := rfl) (hst := rfl) (hsum := Nat.le_of_ble_eq_true rfl) (hdg := dL_law_1118) ?_
      rintro _ S9 ⟨rfl, e9⟩
      rw [e9]
      clear e9 S9
      refine g_at (pc2 := 1121) rfl rfl (st2 := [vL (fpZ D)]) rfl (S2 := S) rfl ?_
      refine g_lload (pc := 1121) hX 12 rfl dL_law_1121 ?_
      refine g_lcmp_same (pc := 1123) (tgt := 1131) hX (a := fpZ D) (b := fpZ D) rfl dL_law_1123 dL_law_1124 (by decide) ?_
      refine g_iconst (pc := 1127) hX dL_law_1127 ?_
      refine g_goto (pc := 1128) (tgt := 1169) hX dL_law_1128 (by decide) ?_
      refine g_istore (pc := 1169) hX (lv2 := [(8, vI (1)), (13, vI (-1000001)), (12, vI (z)), (0, .ref b), (1, .ref (gw_ad w 0)), (2, vI (snP D)), (3, vI (snN D)), (4, vI (snR D)), (5, vI (k)), (6, vI (q)), (7, vI (a)), (9, vI (how)), (10, vL (fpZ D))]) (by decide) rfl dL_law_1169 ?_
      refine g_goto (pc := 1171) (tgt := 1488) hX dL_law_1171 (by decide) ?_
      refine g_sub (lv2 := [(8, vI (1)), (0, .ref b), (1, .ref (gw_ad w 0)), (2, vI (snP D)), (3, vI (snN D)), (4, vI (snR D)), (5, vI (k))]) [0, 3, 4, 5, 6, 7, 8] rfl ?_
      exact hend D S _ _ _ hA (by omega) (by omega) (by omega) ⟨by omega, by omega⟩

