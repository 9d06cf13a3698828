/-! ===== the reference: take, dispute, settle ===== -/
theorem bfor_c {f g : Int → Int} {x : Int} : ∀ (n : Nat) (i : Int), (∀ j, i ≤ j → j < i + n → f j = g j) → bfor f x n i = bfor g x n i
  | 0, _, _ => rfl
  | n + 1, i, h => by
    show (if x ≤ f i then i else bfor f x n (i + 1)) = (if x ≤ g i then i else bfor g x n (i + 1))
    rw [h i (Int.le_refl i) (by omega), bfor_c n (i + 1) (fun j a b => h j (by omega) (by omega))]
def lo940 (V1 V : Int → Int) : Prop := ∀ j, j < 940 → V1 j = V j
theorem lo940.bnd {V1 V : Int → Int} (h : lo940 V1 V) (hB : vBnd V) : vBnd V1 := fun z a b => by rw [h _ (by omega)]; exact hB z a b
theorem lo940.zon {V1 V : Int → Int} (h : lo940 V1 V) (hB : vBnd V) (hZ : vZon V) : vZon V1 := fun z a b => by
  have hb := hB z a b
  obtain ⟨h1, h2⟩ := hZ z a b
  rw [h (24 + 14 * z + 1) (by omega), h (24 + 14 * z) (by omega)]
  refine ⟨h1, fun i c d => ?_⟩
  rw [h (24 + 14 * z + 2 + 2 * i) (by omega), h (24 + 14 * z + 2 + 2 * i + 1) (by omega)]
  exact h2 i c d
theorem lo940.ok {V1 V : Int → Int} (h : lo940 V1 V) (hv : mOK V) : mOK V1 := by
  unfold mOK scF at hv ⊢
  rw [h 0 (by decide), h 1 (by decide), h 2 (by decide), h 3 (by decide), h 4 (by decide), h 5 (by decide), h 6 (by decide), h 7 (by decide), h 8 (by decide), h 9 (by decide), h 10 (by decide), h 11 (by decide), h 12 (by decide), h 13 (by decide), h 14 (by decide), h 15 (by decide), h 16 (by decide), h 17 (by decide)]
  exact hv
theorem lo940.rmk {V1 V MK MM CH AM : Int → Int} (h : lo940 V1 V) (hR : RMK V MK MM CH AM) : RMK V1 MK MM CH AM := fun k a b => hR k a (by rw [← h 18 (by decide)]; exact b)
theorem lo940.pk {V1 V : Int → Int} {p : Int} (h : lo940 V1 V) (hp : p < 30) (hk : pkV V p) : pkV V1 p := by
  unfold pkV at hk ⊢
  rw [h (570 + 12 * p + 0) (by omega), h (570 + 12 * p + 1) (by omega), h (570 + 12 * p + 2) (by omega), h (570 + 12 * p + 3) (by omega), h (570 + 12 * p + 4) (by omega)]
  exact hk
theorem mbx_c {V1 V : Int → Int} {z x : Int} (hz : z < 4) (h : lo940 V1 V) (hB : 0 ≤ V (24 + 14 * z) ∧ V (24 + 14 * z) ≤ 6) : mbx V1 z x = mbx V z x := by
  unfold mbx
  rw [h (24 + 14 * z) (by omega)]
  exact bfor_c _ _ (fun j a b => h _ (by omega))
theorem bzM_c {V1 V : Int → Int} {z x : Int} (hz : z < 4) (h : lo940 V1 V) (hB : 0 ≤ V (24 + 14 * z) ∧ V (24 + 14 * z) ≤ 6) : bzM V1 z x = bzM V z x ∧ brM V1 z x = brM V z x := by
  have hm := mbx_b (V := V) (z := z) (x := x) hB.1
  unfold bzM brM
  rw [mbx_c hz h hB, h (24 + 14 * z) (by omega), h (24 + 14 * z + 2 + 2 * mbx V z x + 1) (by omega), h (24 + 14 * z + 2 + 2 * (mbx V z x - 1) + 1) (by omega), h (24 + 14 * z + 1) (by omega), h (24 + 14 * z + 2 + 2 * (mbx V z x - 1)) (by omega)]
  exact ⟨rfl, rfl⟩
theorem dimM_c {V1 V : Int → Int} (h : V1 6 = V 6) (a b c : Int) : dimM V1 a b c = dimM V a b c := by
  unfold dimM
  rw [h]
theorem bilM_c {V1 V : Int → Int} (h : V1 7 = V 7) (a b : Int) : bilM V1 a b = bilM V a b := by
  unfold bilM
  rw [h]
theorem wkM_c {V1 V : Int → Int} {MK MM CH AM : Int → Int} {rl a b c z : Int} (hz : z < 4) (h : lo940 V1 V) (hB : 0 ≤ V (24 + 14 * z) ∧ V (24 + 14 * z) ≤ 6) : wkM V1 MK MM CH AM rl a b c z = wkM V MK MM CH AM rl a b c z := by
  have hd := dimM_c (h 6 (by decide)) a b c
  have hb := bilM_c (h 7 (by decide)) rl (dimM V a b c)
  have hf : flM V1 rl a b c z = flM V rl a b c z := by
    funext i
    unfold flM
    rw [hd, hb]
  funext i
  unfold wkM
  rw [hd, hb, hf, h 18 (by decide), (bzM_c hz h hB).1, (bzM_c hz h hB).2]
theorem wiW_c {V1 V : Int → Int} {MK MM CH AM : Int → Int} {p x y : Int} (hp : p < 30) (h : lo940 V1 V) (hB : vBnd V) (hk : pkV V p) : wiW V1 MK MM CH AM p x y = wiW V MK MM CH AM p x y := by
  have e : ∀ i, i ≤ 4 → wiV V1 p x y i = wiV V p x y i := fun i hi => by
    unfold wiV
    rw [h _ (by omega)]
  unfold wiW
  rw [e 0 (by decide), e 1 (by decide), e 2 (by decide), e 3 (by decide), h _ (by omega)]
  exact wkM_c hk.2.2.2.2.2 h (hB _ hk.2.2.2.2.1 hk.2.2.2.2.2)
theorem wiV_b {V : Int → Int} {p x y : Int} (hk : pkV V p) (hw : wiOK x y) : (1 ≤ wiV V p x y 0 ∧ wiV V p x y 0 ≤ 100000) ∧ (1 ≤ wiV V p x y 1 ∧ wiV V p x y 1 ≤ 2000) ∧ (1 ≤ wiV V p x y 2 ∧ wiV V p x y 2 ≤ 2000) ∧ (1 ≤ wiV V p x y 3 ∧ wiV V p x y 3 ≤ 2000) := by
  obtain ⟨k0, k1, k2, k3, -⟩ := hk
  obtain ⟨w0, w1⟩ := hw
  unfold wiV
  refine ⟨?_, ?_, ?_, ?_⟩
  · by_cases h : x = 0
    · rw [if_pos h]; exact w0 h
    · rw [if_neg h]; exact k0
  · by_cases h : x = 1
    · rw [if_pos h]; exact w1 (by omega)
    · rw [if_neg h]; exact k1
  · by_cases h : x = 2
    · rw [if_pos h]; exact w1 (by omega)
    · rw [if_neg h]; exact k2
  · by_cases h : x = 3
    · rw [if_pos h]; exact w1 (by omega)
    · rw [if_neg h]; exact k3
theorem wkM_8 {V MK MM CH AM : Int → Int} {rl a b c z : Int} (hv : mOK V) (hZ : vZon V) (hr : 0 ≤ rl ∧ rl ≤ 200000) (ha : 1 ≤ a ∧ a ≤ 2000) (hb : 1 ≤ b ∧ b ≤ 2000) (hc : 1 ≤ c ∧ c ≤ 2000) (z0 : 0 ≤ z) (z4 : z < 4) (h1 : 1 ≤ V (24 + 14 * z)) : 0 ≤ wkM V MK MM CH AM rl a b c z 8 ∧ wkM V MK MM CH AM rl a b c z 8 ≤ 1000000000 := by
  have hvo := volZ_b ha hb hc
  obtain ⟨⟨-, -, -, h6, h7⟩, -⟩ := hv
  exact cgM_b _ _ _ _ _ (bzM_b hZ z0 z4 h1 (bil_9 h6 h7 hr ⟨by omega, by omega⟩)) _
theorem wiW_8 {V MK MM CH AM : Int → Int} {p x y : Int} (hv : mOK V) (hZ : vZon V) (hk : pkV V p) (hw : wiOK x y) (h1 : 1 ≤ V (24 + 14 * V (570 + 12 * p + 4))) : 0 ≤ wiW V MK MM CH AM p x y 8 ∧ wiW V MK MM CH AM p x y 8 ≤ 1000000000 := by
  obtain ⟨a, b, c, d⟩ := wiV_b hk hw
  exact wkM_8 hv hZ ⟨by omega, by omega⟩ b c d hk.2.2.2.2.1 hk.2.2.2.2.2 h1
theorem vLim_up {V : Int → Int} {i x : Int} (h : vLim V) (hx : -1000000000000 ≤ x ∧ x ≤ 1000000000000) : vLim (updZ V i x) := by
  intro j
  unfold updZ
  split
  · exact hx
  · exact h j
theorem mopZ_in {V : Int → Int} (h20 : 0 ≤ V 20 ∧ V 20 ≤ 20) (p : Int) : inI (mopZ V p) := by
  have h := mopF_b V p (V 20).toNat
  show inI (mopF V p (V 20).toNat)
  rcases h with h | h
  · rw [h]; exact ⟨by decide, by decide⟩
  · exact ⟨by omega, by omega⟩
theorem actW_n {V F : Int → Int} {b c c' x : Int} (h : 0 ≤ c) (hc : c' = c + 1) (hx : x = F c) : updZ (actW V F b c) (b + c) x = actW V F b c' := by
  rw [hc, hx]
  exact actW_s h
theorem actW_c {V F F' : Int → Int} {b n : Int} (h : ∀ i, 0 ≤ i → i < n → F i = F' i) : actW V F b n = actW V F' b n := by
  funext k
  unfold actW
  by_cases hk : b ≤ k ∧ k < b + n
  · rw [if_pos hk, if_pos hk, h _ (by omega) (by omega)]
  · rw [if_neg hk, if_neg hk]
def ntF (p x y : Int) (W : Int → Int) : Int → Int := fun i => if i = 0 then p else if i = 1 then x else if i = 2 then y else if i = 3 then W 8 else if i = 4 then 0 else if i = 5 then 0 else if i = 6 then W 5 else if i = 7 then W 6 else if i = 8 then W 7 else W i
theorem ntF_9 {p x y : Int} {W : Int → Int} {i : Int} (h : 9 ≤ i) : ntF p x y W i = W i := by
  unfold ntF
  rw [if_neg (by omega), if_neg (by omega), if_neg (by omega), if_neg (by omega), if_neg (by omega), if_neg (by omega), if_neg (by omega), if_neg (by omega), if_neg (by omega)]
theorem ntF_s {V W : Int → Int} {p x y b k : Int} (h : 0 ≤ k) : updZ (actW V (ntF p x y W) b (9 + k)) (b + (9 + k)) (W (9 + k)) = actW V (ntF p x y W) b (9 + (k + 1)) := actW_n (by omega) (by omega) (ntF_9 (by omega)).symm
theorem ntF_r {V W : Int → Int} {p x y b : Int} : updZ (updZ (updZ (updZ (updZ (updZ (updZ (updZ (updZ V (b + 0) p) (b + 1) x) (b + 2) y) (b + 3) (W 8)) (b + 4) 0) (b + 5) 0) (b + 6) (W 5)) (b + 7) (W 6)) (b + 8) (W 7) = actW V (ntF p x y W) b 9 := by
  have e1 : updZ V (b + 0) p = actW V (ntF p x y W) b 1 := by
    have h := actW_n (V := V) (F := ntF p x y W) (b := b) (c := 0) (c' := 1) (x := p) (by decide) rfl rfl
    rw [actW_0] at h
    exact h
  rw [e1, actW_n (F := ntF p x y W) (c := 1) (c' := 2) (x := x) (by decide) rfl rfl, actW_n (F := ntF p x y W) (c := 2) (c' := 3) (x := y) (by decide) rfl rfl, actW_n (F := ntF p x y W) (c := 3) (c' := 4) (x := W 8) (by decide) rfl rfl, actW_n (F := ntF p x y W) (c := 4) (c' := 5) (x := 0) (by decide) rfl rfl, actW_n (F := ntF p x y W) (c := 5) (c' := 6) (x := 0) (by decide) rfl rfl, actW_n (F := ntF p x y W) (c := 6) (c' := 7) (x := W 5) (by decide) rfl rfl, actW_n (F := ntF p x y W) (c := 7) (c' := 8) (x := W 6) (by decide) rfl rfl, actW_n (F := ntF p x y W) (c := 8) (c' := 9) (x := W 7) (by decide) rfl rfl]
def tkV (V W : Int → Int) : Int → Int := updZ (actW V W (570 + 12 * V 19 + 0) 12) 19 (V 19 + 1)
def diV (V W : Int → Int) (p x y : Int) : Int → Int := updZ (actW V (ntF p x y W) (940 + 12 * V 20) 12) 20 (V 20 + 1)
def bkV (V : Int → Int) (n : Int) : Int := V (570 + 12 * V (940 + 12 * n + 0) + 8) - V (940 + 12 * n + 3)
def seV1 (V : Int → Int) (n q r : Int) : Int → Int := updZ (updZ (updZ (updZ (updZ (updZ V (940 + 12 * n + 4) 1) (570 + 12 * q + r) (V (940 + 12 * n + 2))) (570 + 12 * q + 8) (V (940 + 12 * n + 3))) (570 + 12 * q + 5) (V (940 + 12 * n + 6))) (570 + 12 * q + 6) (V (940 + 12 * n + 7))) (570 + 12 * q + 7) (V (940 + 12 * n + 8))
def seV (V : Int → Int) (n : Int) : Int → Int := updZ (updZ (actW (seV1 V n (V (940 + 12 * n + 0)) (V (940 + 12 * n + 1))) (fun i => V (940 + 12 * n + (9 + i))) (570 + 12 * V (940 + 12 * n + 0) + 9) 3) (940 + 12 * n + 5) (bkV V n)) 21 (V 21 + bkV V n)
theorem act3_s {V F : Int → Int} {b k x : Int} (h : 0 ≤ k) (hx : x = F k) : updZ (actW V F (b + 9) k) (b + (9 + k)) x = actW V F (b + 9) (k + 1) := by
  rw [← Int.add_assoc, hx]
  exact actW_s h
theorem groV_o {V : Int → Int} (h : mOK V) (ho : ovrV V = false) : groV V ≤ 70100 := by
  have hb := of_decide_eq_false ho
  obtain ⟨⟨⟨-, -, f2, f3⟩, -⟩, -⟩ := h
  unfold groV
  generalize hx : 2 * (rawV V - V 10) + V 2 = x
  have h1 := Int.ediv_mul_le x (show 2 * V 2 ≠ 0 by omega)
  have e : x / (2 * V 2) * (2 * V 2) = 2 * (V 2 * (x / (2 * V 2))) := by rw [Int.mul_left_comm, Int.mul_comm (x / (2 * V 2)) (V 2)]
  rw [e] at h1
  omega

set_option maxHeartbeats 4000000 in
set_option maxRecDepth 100000 in
theorem c_X7_take {w : gW} {l : Launch} {S : Nat → va_E} {pm tm xm at_ wm wh : Int} {ir : Bool} {V PV TY TX MK MM CH AM WT WK FL PI : Int → Int} (hN : gw_N w = 105) (hm : modelAt w pm tm xm at_ wm wh ir V PV TY TX MK MM CH AM WT WK FL PI S) (hB : vBnd V) (hL : vLim V) (hpm : 0 ≤ pm ∧ pm ≤ 4) (hv : mOK V) (hZ : vZon V) (h18 : 0 ≤ V 18 ∧ V 18 ≤ 8) (hTX : ∀ i, inI (TX i)) (hWT : ∀ i, inI (WT i)) (hrt : ∀ i, 0 ≤ i → i < V 18 → 0 ≤ V (80 + 61 * i) ∧ V (80 + 61 * i) ≤ 60) (hVt : ∀ j, 80 ≤ j → j < 568 → inI (V j)) {s0 : Int → rdS} (hz : ∀ i, (s0 i).1 0 = 0 ∧ (s0 i).1 4 = 0 ∧ (s0 i).1 5 = 0) (hgd : ∀ i, 0 ≤ i → i < V 18 → ∀ n, ¬ rStop (txT V i) (s0 i) (V (80 + 61 * i)) n) (hpi0 : ∀ j, PI j = 0 ∨ PI j = 1) (hfl : ∀ j, inL (FL j)) (h19 : 0 ≤ V 19 ∧ V 19 ≤ 30) {a b c z : Int} (ha : inI a) (hb : inI b) (hc : inI c) (hzz : inI z) :
    GM1 w l yX7_take wsX7_take { frames := 5, cells := 0, slots := 0, locals := 115 } [.ref (gw_ad w 92), vI (a), vI (b), vI (c), vI (z)] S
      (fun v S' => if ((1 ≤ a ∧ a ≤ 2000) ∧ (1 ≤ b ∧ b ≤ 2000) ∧ (1 ≤ c ∧ c ≤ 2000) ∧ 0 ≤ z ∧ z ≤ 3) then (if steV V = true ∧ ovrV V = false ∧ 1 ≤ groV V - V 11 ∧ V (24 + 14 * z) ≠ 0 then (if V 19 = 30 then v = vI (-1000003) ∧ S' = S else ∃ (xm1 at1 wm1 wh1 : Int) (ir1 : Bool) (TX1 WT1 MK1 MM1 CH1 AM1 WK1 FL1 PI1 : Int → Int), POSTM w S (actN pm) tm xm1 at1 wm1 wh1 ir1 (tkV V (wkM V MK1 MM1 CH1 AM1 (groV V - V 11) a b c z)) (actP pm PV V) TY TX1 MK1 MM1 CH1 AM1 WT1 WK1 FL1 PI1 S' ∧ (∀ i, inI (TX1 i)) ∧ (∀ i, inI (WT1 i)) ∧ (∀ j, inL (FL1 j)) ∧ (∀ j, PI1 j = 0 ∨ PI1 j = 1) ∧ (∀ j, 0 ≤ j → j < V 18 → Read (txT V j) (s0 j) j (V (80 + 61 * j)) MK1 (MM1 j) (CH1 j) (AM1 j) ∧ 0 ≤ MM1 j ∧ MM1 j ≤ 60) ∧ v = vI (V 19)) else v = vI (-1000002) ∧ S' = S) else v = vI (-1000001) ∧ S' = S) := by
  refine GM.start (own := RX7) (n := "take") (d := "(IIII)I") (by decide) rfl (Nat.le_of_ble_eq_true rfl) ?_
  intro X hX hR hXl
  subst hXl
  refine g_at rfl (lv2 := [(0, .ref (gw_ad w 92)), (1, vI (a)), (2, vI (b)), (3, vI (c)), (4, vI (z))]) rfl rfl rfl ?_
  obtain ⟨⟨m92, m93, m94⟩, ⟨m95, m96⟩, ⟨m97, m98, m99, m100, m101⟩, ⟨m102, m103, m104⟩⟩ := (id hm)
  have hr := hv.r
  have hrm := rawV_m hr
  have hrb := rawV_b hr
  obtain ⟨⟨⟨⟨f0a, f0b⟩, ⟨f1a, f1b⟩, ⟨f2a, f2b⟩, ⟨f3a, f3b⟩⟩, ⟨⟨f4a, f4b⟩, ⟨f5a, f5b⟩, ⟨f6a, f6b⟩, ⟨f7a, f7b⟩⟩⟩, ⟨⟨a8a, a8b⟩, ⟨a9a, a9b⟩, ⟨a10a, a10b⟩, ⟨a11a, a11b⟩, ⟨a12a, a12b⟩, ⟨a13a, a13b⟩⟩, ⟨⟨a14a, a14b⟩, ⟨a15a, a15b⟩, ⟨a16a, a16b⟩, ⟨a17a, a17b⟩⟩⟩ := id hv
  have hgb := groV_b hv
  refine g_iload_n (pc := 0) hX 1 rfl dX7_take_0 ?_
  refine g_callT1 (pc := 1) (As := [vI (a)]) (st2 := []) hX (c_X7_isSide (z := a) (by first | assumption | exact inI_mk (by omega) (by omega))) gX7_take_X7_isSide (n := 1) (hw := rfl) (hrc := rfl) (hrs := rfl) (hd := by decide +kernel) (hR := ⟨Nat.le_of_ble_eq_true rfl, Nat.le_of_ble_eq_true rfl⟩) (hn := rfl) (hst := rfl) (hsum := Nat.le_of_ble_eq_true rfl) (hdg := dX7_take_1) ?_
  rintro _ S9 ⟨rfl, e9⟩
  rw [e9]
  clear e9 S9
  refine g_at (pc2 := 4) rfl rfl (st2 := [vI (bz (decide (1 ≤ a ∧ a ≤ 2000)))]) rfl (S2 := S) rfl ?_
  refine g_bif_eq (pc := 4) (tgt := 29) hX dX7_take_4 (by decide) (fun c_4 => ?_) (fun c_4 => ?_)
  · skip
    refine g_ldc (pc := 29) hX (z := -1000001) (List.mem_of_getElem? (i := 1) rfl) (by decide +kernel) dX7_take_29 ?_
    refine g_iret (pc := 31) hX hR dX7_take_31 ?_
    try simp only [decide_eq_true_eq, decide_eq_false_iff_not] at c_4
    exact (if_neg (by omega)).mpr (⟨rfl, rfl⟩)
  · skip
    refine g_iload_n (pc := 7) hX 2 rfl dX7_take_7 ?_
    refine g_callT1 (pc := 8) (As := [vI (b)]) (st2 := []) hX (c_X7_isSide (z := b) (by first | assumption | exact inI_mk (by omega) (by omega))) gX7_take_X7_isSide (n := 1) (hw := rfl) (hrc := rfl) (hrs := rfl) (hd := by decide +kernel) (hR := ⟨Nat.le_of_ble_eq_true rfl, Nat.le_of_ble_eq_true rfl⟩) (hn := rfl) (hst := rfl) (hsum := Nat.le_of_ble_eq_true rfl) (hdg := dX7_take_8) ?_
    rintro _ S9 ⟨rfl, e9⟩
    rw [e9]
    clear e9 S9
    refine g_at (pc2 := 11) rfl rfl (st2 := [vI (bz (decide (1 ≤ b ∧ b ≤ 2000)))]) rfl (S2 := S) rfl ?_
    refine g_bif_eq (pc := 11) (tgt := 29) hX dX7_take_11 (by decide) (fun c_11 => ?_) (fun c_11 => ?_)
    · skip
      refine g_ldc (pc := 29) hX (z := -1000001) (List.mem_of_getElem? (i := 1) rfl) (by decide +kernel) dX7_take_29 ?_
      refine g_iret (pc := 31) hX hR dX7_take_31 ?_
      try simp only [decide_eq_true_eq, decide_eq_false_iff_not] at c_4 c_11
      exact (if_neg (by omega)).mpr (⟨rfl, rfl⟩)
    · skip
      refine g_iload_n (pc := 14) hX 3 rfl dX7_take_14 ?_
      refine g_callT1 (pc := 15) (As := [vI (c)]) (st2 := []) hX (c_X7_isSide (z := c) (by first | assumption | exact inI_mk (by omega) (by omega))) gX7_take_X7_isSide (n := 1) (hw := rfl) (hrc := rfl) (hrs := rfl) (hd := by decide +kernel) (hR := ⟨Nat.le_of_ble_eq_true rfl, Nat.le_of_ble_eq_true rfl⟩) (hn := rfl) (hst := rfl) (hsum := Nat.le_of_ble_eq_true rfl) (hdg := dX7_take_15) ?_
      rintro _ S9 ⟨rfl, e9⟩
      rw [e9]
      clear e9 S9
      refine g_at (pc2 := 18) rfl rfl (st2 := [vI (bz (decide (1 ≤ c ∧ c ≤ 2000)))]) rfl (S2 := S) rfl ?_
      refine g_bif_eq (pc := 18) (tgt := 29) hX dX7_take_18 (by decide) (fun c_18 => ?_) (fun c_18 => ?_)
      · skip
        refine g_ldc (pc := 29) hX (z := -1000001) (List.mem_of_getElem? (i := 1) rfl) (by decide +kernel) dX7_take_29 ?_
        refine g_iret (pc := 31) hX hR dX7_take_31 ?_
        try simp only [decide_eq_true_eq, decide_eq_false_iff_not] at c_4 c_11 c_18
        exact (if_neg (by omega)).mpr (⟨rfl, rfl⟩)
      · skip
        refine g_iload (pc := 21) hX 4 rfl dX7_take_21 ?_
        refine g_callT1 (pc := 23) (As := [vI (z)]) (st2 := []) hX (c_X7_isZone (z := z) (by first | assumption | exact inI_mk (by omega) (by omega))) gX7_take_X7_isZone (n := 1) (hw := rfl) (hrc := rfl) (hrs := rfl) (hd := by decide +kernel) (hR := ⟨Nat.le_of_ble_eq_true rfl, Nat.le_of_ble_eq_true rfl⟩) (hn := rfl) (hst := rfl) (hsum := Nat.le_of_ble_eq_true rfl) (hdg := dX7_take_23) ?_
        rintro _ S9 ⟨rfl, e9⟩
        rw [e9]
        clear e9 S9
        refine g_at (pc2 := 26) rfl rfl (st2 := [vI (bz (decide (0 ≤ z ∧ z ≤ 3)))]) rfl (S2 := S) rfl ?_
        refine g_bif_ne (pc := 26) (tgt := 32) hX dX7_take_26 (by decide) (fun c_26 => ?_) (fun c_26 => ?_)
        · skip
          have hq1 := of_decide_eq_true c_4
          have hq2 := of_decide_eq_true c_11
          have hq3 := of_decide_eq_true c_18
          have hq4 := of_decide_eq_true c_26
          have hBz := hB z (by omega) (by omega)
          refine g_aload_n (pc := 32) hX 0 rfl dX7_take_32 ?_
          refine g_callV1 (pc := 33) (ci := 7) (As := []) (st2 := []) hX 92 (by omega) m92 rfl (c_X7_isSteady hN hm hv) gX7_take_X7_isSteady (n := 0) (hw := rfl) (hrc := rfl) (hrs := rfl) (hd := by decide +kernel) (hR := ⟨Nat.le_of_ble_eq_true rfl, Nat.le_of_ble_eq_true rfl⟩) (hn := rfl) (hst := rfl) (hsum := Nat.le_of_ble_eq_true rfl) (hdg := dX7_take_33) ?_
          rintro _ S9 ⟨rfl, e9⟩
          rw [e9]
          clear e9 S9
          refine g_at (pc2 := 36) rfl rfl (st2 := [vI (bz (steV V))]) rfl (S2 := S) rfl ?_
          refine g_bif_eq (pc := 36) (tgt := 72) hX dX7_take_36 (by decide) (fun c_36 => ?_) (fun c_36 => ?_)
          · skip
            refine g_ldc (pc := 72) hX (z := -1000002) (List.mem_of_getElem? (i := 3) rfl) (by decide +kernel) dX7_take_72 ?_
            refine g_iret (pc := 74) hX hR dX7_take_74 ?_
            try simp only [decide_eq_true_eq, decide_eq_false_iff_not] at c_4 c_11 c_18 c_26 c_36
            exact (if_pos (by omega)).mpr ((if_neg (fun h => absurd h.1 (by rw [c_36]; decide))).mpr (⟨rfl, rfl⟩))
          · skip
            refine g_aload_n (pc := 39) hX 0 rfl dX7_take_39 ?_
            refine g_callV1 (pc := 40) (ci := 7) (As := []) (st2 := []) hX 92 (by omega) m92 rfl (c_X7_isOver hN hm hv) gX7_take_X7_isOver (n := 0) (hw := rfl) (hrc := rfl) (hrs := rfl) (hd := by decide +kernel) (hR := ⟨Nat.le_of_ble_eq_true rfl, Nat.le_of_ble_eq_true rfl⟩) (hn := rfl) (hst := rfl) (hsum := Nat.le_of_ble_eq_true rfl) (hdg := dX7_take_40) ?_
            rintro _ S9 ⟨rfl, e9⟩
            rw [e9]
            clear e9 S9
            refine g_at (pc2 := 43) rfl rfl (st2 := [vI (bz (ovrV V))]) rfl (S2 := S) rfl ?_
            refine g_bif_ne (pc := 43) (tgt := 72) hX dX7_take_43 (by decide) (fun c_43 => ?_) (fun c_43 => ?_)
            · skip
              refine g_ldc (pc := 72) hX (z := -1000002) (List.mem_of_getElem? (i := 3) rfl) (by decide +kernel) dX7_take_72 ?_
              refine g_iret (pc := 74) hX hR dX7_take_74 ?_
              try simp only [decide_eq_true_eq, decide_eq_false_iff_not] at c_4 c_11 c_18 c_26 c_36 c_43
              exact (if_pos (by omega)).mpr ((if_neg (fun h => absurd h.2.1 (by rw [c_43]; decide))).mpr (⟨rfl, rfl⟩))
            · skip
              refine g_aload_n (pc := 46) hX 0 rfl dX7_take_46 ?_
              refine g_callV1 (pc := 47) (ci := 7) (As := []) (st2 := []) hX 92 (by omega) m92 rfl (c_X7_gross hN hm hv) gX7_take_X7_gross (n := 0) (hw := rfl) (hrc := rfl) (hrs := rfl) (hd := by decide +kernel) (hR := ⟨Nat.le_of_ble_eq_true rfl, Nat.le_of_ble_eq_true rfl⟩) (hn := rfl) (hst := rfl) (hsum := Nat.le_of_ble_eq_true rfl) (hdg := dX7_take_47) ?_
              rintro _ S9 ⟨rfl, e9⟩
              rw [e9]
              clear e9 S9
              refine g_at (pc2 := 50) rfl rfl (st2 := [vL (groV V)]) rfl (S2 := S) rfl ?_
              refine g_aload_n (pc := 50) hX 0 rfl dX7_take_50 ?_
              refine g_get (pc := 51) hX (ci := 7) (fun _ h => List.mem_cons_of_mem _ (List.mem_append_right _ h)) rfl 92 (by omega) m92 0 (by decide) (List.mem_of_getElem? (i := 2) rfl) rfl (v := .ref (gw_ad w 93)) rfl dX7_take_51 ?_
              refine g_bipush (pc := 54) hX (by decide) dX7_take_54 ?_
              refine g_lald (pc := 56) hX 93 (by omega) m93 (by omega) (by omega) (by decide) dX7_take_56 ?_
              refine g_lsub (pc := 57) hX dX7_take_57 ?_
              refine g_lconst (pc := 58) hX (z := 1) rfl dX7_take_58 ?_
              refine g_lcmp_lt (pc := 59) (tgt := 72) hX (by first | assumption | exact inI_L (by assumption) | exact inL_mk (by omega) (by omega)) (by first | assumption | exact inI_L (by assumption) | exact inL_mk (by omega) (by omega)) dX7_take_59 dX7_take_60 (by decide) (fun c_59 => ?_) (fun c_59 => ?_)
              · skip
                refine g_ldc (pc := 72) hX (z := -1000002) (List.mem_of_getElem? (i := 3) rfl) (by decide +kernel) dX7_take_72 ?_
                refine g_iret (pc := 74) hX hR dX7_take_74 ?_
                try simp only [decide_eq_true_eq, decide_eq_false_iff_not] at c_4 c_11 c_18 c_26 c_36 c_43 c_59
                exact (if_pos (by omega)).mpr ((if_neg (fun h => absurd h.2.2.1 (by omega))).mpr (⟨rfl, rfl⟩))
              · skip
                refine g_aload_n (pc := 63) hX 0 rfl dX7_take_63 ?_
                refine g_iload (pc := 64) hX 4 rfl dX7_take_64 ?_
                refine g_callV1 (pc := 66) (ci := 7) (As := [vI (z)]) (st2 := []) hX 92 (by omega) m92 rfl (c_X7_bands hN hm (z := z) (by omega) (by omega)) gX7_take_X7_bands (n := 1) (hw := rfl) (hrc := rfl) (hrs := rfl) (hd := by decide +kernel) (hR := ⟨Nat.le_of_ble_eq_true rfl, Nat.le_of_ble_eq_true rfl⟩) (hn := rfl) (hst := rfl) (hsum := Nat.le_of_ble_eq_true rfl) (hdg := dX7_take_66) ?_
                rintro _ S9 ⟨rfl, e9⟩
                rw [e9]
                clear e9 S9
                refine g_at (pc2 := 69) rfl rfl (st2 := [vI (V (24 + 14 * z))]) rfl (S2 := S) rfl ?_
                refine g_if_ne (pc := 69) (tgt := 75) hX (by first | assumption | exact inI_mk (by omega) (by omega)) dX7_take_69 (by decide) (fun c_69 => ?_) (fun c_69 => ?_)
                · skip
                  refine g_aload_n (pc := 75) hX 0 rfl dX7_take_75 ?_
                  refine g_get (pc := 76) hX (ci := 7) (fun _ h => List.mem_cons_of_mem _ (List.mem_append_right _ h)) rfl 92 (by omega) m92 0 (by decide) (List.mem_of_getElem? (i := 2) rfl) rfl (v := .ref (gw_ad w 93)) rfl dX7_take_76 ?_
                  refine g_bipush (pc := 79) hX (by decide) dX7_take_79 ?_
                  refine g_lald (pc := 81) hX 93 (by omega) m93 (by omega) (by omega) (by decide) dX7_take_81 ?_
                  refine g_ldc2 (pc := 82) hX (z := 30) (List.mem_of_getElem? (i := 4) rfl) (by decide +kernel) dX7_take_82 ?_
                  refine g_lcmp_ne (pc := 85) (tgt := 92) hX (by first | assumption | exact inI_L (by assumption) | exact inL_mk (by omega) (by omega)) (by first | assumption | exact inI_L (by assumption) | exact inL_mk (by omega) (by omega)) dX7_take_85 dX7_take_86 (by decide) (fun c_85 => ?_) (fun c_85 => ?_)
                  · skip
                    refine g_aload_n (pc := 92) hX 0 rfl dX7_take_92 ?_
                    refine g_callV0 (pc := 93) (ci := 7) (As := []) (st2 := []) hX 92 (by omega) m92 rfl (c_X7_act hN hm hpm) gX7_take_X7_act (n := 0) (hw := rfl) (hrc := rfl) (hrs := rfl) (hd := by decide +kernel) (hR := ⟨Nat.le_of_ble_eq_true rfl, Nat.le_of_ble_eq_true rfl⟩) (hn := rfl) (hst := rfl) (hsum := Nat.le_of_ble_eq_true rfl) (hdg := dX7_take_93) ?_
                    rintro S93 hP93
                    obtain ⟨⟨m93_92, m93_93, m93_94⟩, ⟨m93_95, m93_96⟩, ⟨m93_97, m93_98, m93_99, m93_100, m93_101⟩, ⟨m93_102, m93_103, m93_104⟩⟩ := hP93.1
                    refine g_at (pc2 := 96) rfl rfl (st2 := []) rfl (S2 := S93) rfl ?_
                    refine g_aload_n (pc := 96) hX 0 rfl dX7_take_96 ?_
                    refine g_callV0 (pc := 97) (ci := 7) (As := []) (st2 := []) hX 92 (by omega) m93_92 rfl (c_X7_readsRules hN (show modelAt w (actN pm) tm xm at_ wm wh ir V (actP pm PV V) TY TX MK MM CH AM WT WK FL PI S93 from ⟨⟨m93_92, m93_93, m93_94⟩, ⟨m93_95, m93_96⟩, ⟨m93_97, m93_98, m93_99, m93_100, m93_101⟩, ⟨m93_102, m93_103, m93_104⟩⟩) h18 hTX hWT hrt hVt hz hgd) gX7_take_X7_readsRules (n := 0) (hw := rfl) (hrc := rfl) (hrs := rfl) (hd := by decide +kernel) (hR := ⟨Nat.le_of_ble_eq_true rfl, Nat.le_of_ble_eq_true rfl⟩) (hn := rfl) (hst := rfl) (hsum := Nat.le_of_ble_eq_true rfl) (hdg := dX7_take_97) ?_
                    rintro S97 ⟨xm97, at97, wm97, wh97, ir97, TX97, WT97, MK97, MM97, CH97, AM97, hP97, hT97, hW97, hRd97⟩
                    obtain ⟨⟨m97_92, m97_93, m97_94⟩, ⟨m97_95, m97_96⟩, ⟨m97_97, m97_98, m97_99, m97_100, m97_101⟩, ⟨m97_102, m97_103, m97_104⟩⟩ := hP97.1
                    have hRK97 := RMK_r hRd97
                    refine g_at (pc2 := 100) rfl rfl (st2 := []) rfl (S2 := S97) rfl ?_
                    have hgo := groV_o hv c_43
                    have hvo := volZ_b hq1 hq2 hq3
                    have hbi := bil_9 (V := V) (real := groV V - V 11) (a := a) (b := b) (c := c) ⟨by omega, by omega⟩ ⟨by omega, by omega⟩ ⟨by omega, by omega⟩ ⟨by omega, by omega⟩
                    refine g_aload_n (pc := 100) hX 0 rfl dX7_take_100 ?_
                    refine g_aload_n (pc := 101) hX 0 rfl dX7_take_101 ?_
                    refine g_callV1 (pc := 102) (ci := 7) (As := []) (st2 := [.ref (gw_ad w 92)]) hX 92 (by omega) m97_92 rfl (c_X7_gross hN (show modelAt w (actN pm) tm xm97 at97 wm97 wh97 ir97 V (actP pm PV V) TY TX97 MK97 MM97 CH97 AM97 WT97 WK FL PI S97 from ⟨⟨m97_92, m97_93, m97_94⟩, ⟨m97_95, m97_96⟩, ⟨m97_97, m97_98, m97_99, m97_100, m97_101⟩, ⟨m97_102, m97_103, m97_104⟩⟩) hv) gX7_take_X7_gross (n := 0) (hw := rfl) (hrc := rfl) (hrs := rfl) (hd := by decide +kernel) (hR := ⟨Nat.le_of_ble_eq_true rfl, Nat.le_of_ble_eq_true rfl⟩) (hn := rfl) (hst := rfl) (hsum := Nat.le_of_ble_eq_true rfl) (hdg := dX7_take_102) ?_
                    rintro _ S9 ⟨rfl, e9⟩
                    rw [e9]
                    clear e9 S9
                    refine g_at (pc2 := 105) rfl rfl (st2 := [vL (groV V), .ref (gw_ad w 92)]) rfl (S2 := S97) rfl ?_
                    refine g_aload_n (pc := 105) hX 0 rfl dX7_take_105 ?_
                    refine g_get (pc := 106) hX (ci := 7) (fun _ h => List.mem_cons_of_mem _ (List.mem_append_right _ h)) rfl 92 (by omega) m97_92 0 (by decide) (List.mem_of_getElem? (i := 2) rfl) rfl (v := .ref (gw_ad w 93)) rfl dX7_take_106 ?_
                    refine g_bipush (pc := 109) hX (by decide) dX7_take_109 ?_
                    refine g_lald (pc := 111) hX 93 (by omega) m97_93 (by omega) (by omega) (by decide) dX7_take_111 ?_
                    refine g_lsub (pc := 112) hX dX7_take_112 ?_
                    refine g_iload_n (pc := 113) hX 1 rfl dX7_take_113 ?_
                    refine g_i2l (pc := 114) hX (by first | assumption | exact inI_mk (by omega) (by omega)) dX7_take_114 ?_
                    refine g_iload_n (pc := 115) hX 2 rfl dX7_take_115 ?_
                    refine g_i2l (pc := 116) hX (by first | assumption | exact inI_mk (by omega) (by omega)) dX7_take_116 ?_
                    refine g_iload_n (pc := 117) hX 3 rfl dX7_take_117 ?_
                    refine g_i2l (pc := 118) hX (by first | assumption | exact inI_mk (by omega) (by omega)) dX7_take_118 ?_
                    refine g_iload (pc := 119) hX 4 rfl dX7_take_119 ?_
                    refine g_callV1 (pc := 121) (ci := 7) (As := [vL ((groV V) - (V 11)), vL (a), vL (b), vL (c), vI (z)]) (st2 := []) hX 92 (by omega) m97_92 rfl (c_X7_works hN (show modelAt w (actN pm) tm xm97 at97 wm97 wh97 ir97 V (actP pm PV V) TY TX97 MK97 MM97 CH97 AM97 WT97 WK FL PI S97 from ⟨⟨m97_92, m97_93, m97_94⟩, ⟨m97_95, m97_96⟩, ⟨m97_97, m97_98, m97_99, m97_100, m97_101⟩, ⟨m97_102, m97_103, m97_104⟩⟩) hB hL hv hRK97 h18 hpi0 hfl (rl := (groV V) - (V 11)) (a := a) (b := b) (c := c) (z := z) hq1 hq2 hq3 ⟨by omega, by omega⟩ (by omega) (by omega) (by omega) (bzM_b hZ (by omega) (by omega) (by omega) hbi)) gX7_take_X7_works (n := 5) (hw := rfl) (hrc := rfl) (hrs := rfl) (hd := by decide +kernel) (hR := ⟨Nat.le_of_ble_eq_true rfl, Nat.le_of_ble_eq_true rfl⟩) (hn := rfl) (hst := rfl) (hsum := Nat.le_of_ble_eq_true rfl) (hdg := dX7_take_121) ?_
                    rintro _ S121 ⟨rfl, WK121, FL121, PI121, hfl121, hwk121, hpi121, hP121⟩
                    obtain ⟨⟨m121_92, m121_93, m121_94⟩, ⟨m121_95, m121_96⟩, ⟨m121_97, m121_98, m121_99, m121_100, m121_101⟩, ⟨m121_102, m121_103, m121_104⟩⟩ := hP121.1
                    refine g_at (pc2 := 124) rfl rfl (st2 := [vL (wkM V MK97 MM97 CH97 AM97 ((groV V) - (V 11)) a b c z 8)]) rfl (S2 := S121) rfl ?_
                    refine g_lstore (pc := 124) hX (lv2 := [(5, vL (wkM V MK97 MM97 CH97 AM97 ((groV V) - (V 11)) a b c z 8)), (0, .ref (gw_ad w 92)), (1, vI (a)), (2, vI (b)), (3, vI (c)), (4, vI (z))]) (by decide) rfl dX7_take_124 ?_
                    refine g_aload_n (pc := 126) hX 1 rfl dX7_take_126 ?_
                    refine g_get (pc := 127) hX (ci := 7) (fun _ h => List.mem_cons_of_mem _ (List.mem_append_right _ h)) rfl 92 (by omega) m121_92 0 (by decide) (List.mem_of_getElem? (i := 2) rfl) rfl (v := .ref (gw_ad w 93)) rfl dX7_take_127 ?_
                    refine g_bipush (pc := 130) hX (by decide) dX7_take_130 ?_
                    refine g_lald (pc := 132) hX 93 (by omega) m121_93 (by omega) (by omega) (by decide) dX7_take_132 ?_
                    refine g_l2i (pc := 133) hX dX7_take_133 ?_
                    refine g_iconst (pc := 134) hX dX7_take_134 ?_
                    refine g_callT1 (pc := 135) (As := [vI (V 19), vI (0)]) (st2 := []) hX (c_X7_parcelAt (z := V 19) (k := 0)) gX7_take_X7_parcelAt (n := 2) (hw := rfl) (hrc := rfl) (hrs := rfl) (hd := by decide +kernel) (hR := ⟨Nat.le_of_ble_eq_true rfl, Nat.le_of_ble_eq_true rfl⟩) (hn := rfl) (hst := rfl) (hsum := Nat.le_of_ble_eq_true rfl) (hdg := dX7_take_135) ?_
                    rintro _ S9 ⟨rfl, e9⟩
                    rw [e9]
                    clear e9 S9
                    refine g_at (pc2 := 138) rfl rfl (st2 := [vI (570 + 12 * (V 19) + 0)]) rfl (S2 := S121) rfl ?_
                    refine g_istore (pc := 138) hX (lv2 := [(7, vI (570 + 12 * (V 19) + 0)), (5, vL (wkM V MK97 MM97 CH97 AM97 ((groV V) - (V 11)) a b c z 8)), (0, .ref (gw_ad w 92)), (1, vI (a)), (2, vI (b)), (3, vI (c)), (4, vI (z))]) (by decide) rfl dX7_take_138 ?_
                    refine g_iconst (pc := 140) hX dX7_take_140 ?_
                    refine g_istore (pc := 141) hX (lv2 := [(8, vI (0)), (7, vI (570 + 12 * (V 19) + 0)), (5, vL (wkM V MK97 MM97 CH97 AM97 ((groV V) - (V 11)) a b c z 8)), (0, .ref (gw_ad w 92)), (1, vI (a)), (2, vI (b)), (3, vI (c)), (4, vI (z))]) (by decide) rfl dX7_take_141 ?_
                    have lk : ∀ (n0 : Nat) (k : Int), 0 ≤ k → k ≤ 12 → 12 - k < n0 → G w { frames := 5, cells := 0, slots := 0, locals := 115 } X 9 143 [(8, vI (k)), (0, .ref (gw_ad w 92)), (7, vI (570 + 12 * (V 19) + 0))] [] (va_up S121 93 (AJ w 1200 (actW V WK121 (570 + 12 * V 19 + 0) k))) := by
                      intro n0
                      induction n0 with
                      | zero => intro k  h1k h2k h3k; exact absurd h3k (by omega)
                      | succ n0 ihlk =>
                        intro k  h1k h2k h3k 
                        have hk : inI k := inI_mk (by omega) (by omega)
                        refine g_iload (pc := 143) hX 0 rfl dX7_take_143 ?_
                        refine g_bipush (pc := 145) hX (by decide) dX7_take_145 ?_
                        refine g_icmp_ge (pc := 147) (tgt := 173) hX (by first | assumption | exact inI_mk (by omega) (by omega)) (by first | assumption | exact inI_mk (by omega) (by omega)) dX7_take_147 (by decide) (fun c_147 => ?_) (fun c_147 => ?_)
                        · skip
                          have hkk : k = 12 := by omega
                          refine g_aload_n (pc := 173) hX 1 rfl dX7_take_173 ?_
                          refine g_get (pc := 174) hX (ci := 7) (fun _ h => List.mem_cons_of_mem _ (List.mem_append_right _ h)) rfl 92 (by omega) (up_ne (by decide) m121_92) 0 (by decide) (List.mem_of_getElem? (i := 2) rfl) rfl (v := .ref (gw_ad w 93)) rfl dX7_take_174 ?_
                          refine g_bipush (pc := 177) hX (by decide) dX7_take_177 ?_
                          refine g_dup2 (pc := 179) hX rfl rfl dX7_take_179 ?_
                          refine g_lald (pc := 180) hX 93 (by omega) (up_eq _ _ _) (by omega) (by omega) (by decide) dX7_take_180 ?_
                          refine g_at rfl rfl (st2 := [vL (V 19), vI (19), .ref (gw_ad w 93)]) (by rw [show (actW V WK121 (570 + 12 * V 19 + 0) k) 19 = V 19 from by unfold actW; rw [if_neg (by omega)]]) rfl ?_
                          refine g_lconst (pc := 181) hX (z := 1) rfl dX7_take_181 ?_
                          refine g_ladd (pc := 182) hX dX7_take_182 ?_
                          refine g_last (pc := 183) hX 93 (by omega) (up_eq _ _ _) (by omega) (by omega) (by decide) dX7_take_183 ?_
                          refine g_at rfl rfl rfl (S2 := (va_up (va_up S121 93 (AJ w 1200 (actW V WK121 (570 + 12 * V 19 + 0) k))) 93 (AJ w 1200 (updZ (actW V WK121 (570 + 12 * V 19 + 0) k) (19) ((V 19) + 1))))) rfl ?_
                          refine g_aload_n (pc := 184) hX 1 rfl dX7_take_184 ?_
                          refine g_get (pc := 185) hX (ci := 7) (fun _ h => List.mem_cons_of_mem _ (List.mem_append_right _ h)) rfl 92 (by omega) (up_ne (by decide) (up_ne (by decide) m121_92)) 0 (by decide) (List.mem_of_getElem? (i := 2) rfl) rfl (v := .ref (gw_ad w 93)) rfl dX7_take_185 ?_
                          refine g_bipush (pc := 188) hX (by decide) dX7_take_188 ?_
                          refine g_lald (pc := 190) hX 93 (by omega) (up_eq _ _ _) (by omega) (by omega) (by decide) dX7_take_190 ?_
                          refine g_at rfl rfl (st2 := [vL (V 19 + 1)]) (by rw [show (updZ (actW V WK121 (570 + 12 * V 19 + 0) k) (19) ((V 19) + 1)) 19 = V 19 + 1 from updZ_eq _ _ _]) rfl ?_
                          refine g_l2i (pc := 191) hX dX7_take_191 ?_
                          refine g_iconst (pc := 192) hX dX7_take_192 ?_
                          refine g_isub (pc := 193) hX dX7_take_193 ?_
                          refine g_iret (pc := 194) hX hR dX7_take_194 ?_
                          try simp only [decide_eq_true_eq, decide_eq_false_iff_not] at c_147
                          have hk12 : k = 12 := by omega
                          subst hk12
                          skip
                          refine (if_pos (by omega)).mpr ((if_pos (⟨c_36, c_43, by omega, by omega⟩)).mpr ((if_neg (by omega)).mpr (⟨xm97, at97, wm97, wh97, ir97, TX97, WT97, MK97, MM97, CH97, AM97, WK121, FL121, PI121, ?_, hT97, hW97, hfl121, hpi121, hRd97, vI_c (by omega)⟩)))
                          unfold tkV
                          rw [← actW_c (F := WK121) (fun i h0 h1 => hwk121 i h0 (by omega))]
                          exact ⟨⟨⟨(up_ne (by decide) (up_ne (by decide) m121_92)), (up_eq _ _ _), (up_ne (by decide) (up_ne (by decide) m121_94))⟩, ⟨(up_ne (by decide) (up_ne (by decide) m121_95)), (up_ne (by decide) (up_ne (by decide) m121_96))⟩, ⟨(up_ne (by decide) (up_ne (by decide) m121_97)), (up_ne (by decide) (up_ne (by decide) m121_98)), (up_ne (by decide) (up_ne (by decide) m121_99)), (up_ne (by decide) (up_ne (by decide) m121_100)), (up_ne (by decide) (up_ne (by decide) m121_101))⟩, ⟨(up_ne (by decide) (up_ne (by decide) m121_102)), (up_ne (by decide) (up_ne (by decide) m121_103)), (up_ne (by decide) (up_ne (by decide) m121_104))⟩⟩, fun q hq => (up_ne (by omega) (up_ne (by omega) ((hP121.2 q hq).trans ((hP97.2 q hq).trans ((hP93.2 q hq).trans rfl)))))⟩
                        · skip
                          refine g_aload_n (pc := 150) hX 1 rfl dX7_take_150 ?_
                          refine g_get (pc := 151) hX (ci := 7) (fun _ h => List.mem_cons_of_mem _ (List.mem_append_right _ h)) rfl 92 (by omega) (up_ne (by decide) m121_92) 0 (by decide) (List.mem_of_getElem? (i := 2) rfl) rfl (v := .ref (gw_ad w 93)) rfl dX7_take_151 ?_
                          refine g_iload (pc := 154) hX 2 rfl dX7_take_154 ?_
                          refine g_iload (pc := 156) hX 0 rfl dX7_take_156 ?_
                          refine g_iadd (pc := 158) hX dX7_take_158 ?_
                          refine g_aload_n (pc := 159) hX 1 rfl dX7_take_159 ?_
                          refine g_get (pc := 160) hX (ci := 7) (fun _ h => List.mem_cons_of_mem _ (List.mem_append_right _ h)) rfl 92 (by omega) (up_ne (by decide) m121_92) 16 (by decide) (List.mem_of_getElem? (i := 6) rfl) rfl (v := .ref (gw_ad w 102)) rfl dX7_take_160 ?_
                          refine g_iload (pc := 163) hX 0 rfl dX7_take_163 ?_
                          refine g_lald (pc := 165) hX 102 (by omega) (up_ne (by decide) m121_102) (by omega) (by omega) (by decide) dX7_take_165 ?_
                          refine g_last (pc := 166) hX 93 (by omega) (up_eq _ _ _) (by omega) (by omega) (by decide) dX7_take_166 ?_
                          refine g_at rfl rfl rfl (S2 := (va_up (va_up S121 93 (AJ w 1200 (actW V WK121 (570 + 12 * V 19 + 0) k))) 93 (AJ w 1200 (updZ (actW V WK121 (570 + 12 * V 19 + 0) k) ((570 + 12 * (V 19) + 0) + k) (WK121 k))))) rfl ?_
                          refine g_iinc (pc := 167) hX (lv2 := [(8, vI (k + 1)), (0, .ref (gw_ad w 92)), (7, vI (570 + 12 * (V 19) + 0))]) 0 rfl (by decide) rfl dX7_take_167 ?_
                          refine g_goto (pc := 170) (tgt := 143) hX dX7_take_170 (by decide) ?_
                          refine g_sub (lv2 := [(8, vI (k + 1)), (0, .ref (gw_ad w 92)), (7, vI (570 + 12 * (V 19) + 0))]) [0, 1, 2] rfl ?_
                          refine g_at rfl (lv2 := [(8, vI (k + 1)), (0, .ref (gw_ad w 92)), (7, vI (570 + 12 * (V 19) + 0))]) (rfl) rfl (S2 := (va_up S121 93 (AJ w 1200 (actW V WK121 (570 + 12 * V 19 + 0) (k + 1))))) (by rw [up_up, actW_s h1k]) ?_
                          exact ihlk (k + 1)  (by omega) (by omega) (by omega) 
                    refine g_sub (lv2 := [(8, vI (0)), (0, .ref (gw_ad w 92)), (7, vI (570 + 12 * (V 19) + 0))]) [0, 3, 1] rfl ?_
                    refine g_at rfl (lv2 := [(8, vI (0)), (0, .ref (gw_ad w 92)), (7, vI (570 + 12 * (V 19) + 0))]) (rfl) rfl (S2 := (va_up S121 93 (AJ w 1200 (actW V WK121 (570 + 12 * V 19 + 0) 0)))) (by rw [actW_0, up_self (f := S121) m121_93]) ?_
                    exact lk ((12 : Int) - 0 + 1).toNat 0  (by omega) (by omega) (by omega) 
                  · skip
                    refine g_ldc (pc := 89) hX (z := -1000003) (List.mem_of_getElem? (i := 5) rfl) (by decide +kernel) dX7_take_89 ?_
                    refine g_iret (pc := 91) hX hR dX7_take_91 ?_
                    try simp only [decide_eq_true_eq, decide_eq_false_iff_not] at c_4 c_11 c_18 c_26 c_36 c_43 c_59 c_69 c_85
                    exact (if_pos (by omega)).mpr ((if_pos (⟨c_36, c_43, by omega, by omega⟩)).mpr ((if_pos (by omega)).mpr (⟨rfl, rfl⟩)))
                · skip
                  refine g_ldc (pc := 72) hX (z := -1000002) (List.mem_of_getElem? (i := 3) rfl) (by decide +kernel) dX7_take_72 ?_
                  refine g_iret (pc := 74) hX hR dX7_take_74 ?_
                  try simp only [decide_eq_true_eq, decide_eq_false_iff_not] at c_4 c_11 c_18 c_26 c_36 c_43 c_59 c_69
                  exact (if_pos (by omega)).mpr ((if_neg (fun h => absurd h.2.2.2 (by omega))).mpr (⟨rfl, rfl⟩))
        · skip
          refine g_ldc (pc := 29) hX (z := -1000001) (List.mem_of_getElem? (i := 1) rfl) (by decide +kernel) dX7_take_29 ?_
          refine g_iret (pc := 31) hX hR dX7_take_31 ?_
          try simp only [decide_eq_true_eq, decide_eq_false_iff_not] at c_4 c_11 c_18 c_26
          exact (if_neg (by omega)).mpr (⟨rfl, rfl⟩)

set_option maxHeartbeats 4000000 in
set_option maxRecDepth 100000 in
theorem c_X7_dispute {w : gW} {l : Launch} {S : Nat → va_E} {pm tm xm at_ wm wh : Int} {ir : Bool} {V PV TY TX MK MM CH AM WT WK FL PI : Int → Int} (hN : gw_N w = 105) (hm : modelAt w pm tm xm at_ wm wh ir V PV TY TX MK MM CH AM WT WK FL PI S) (hB : vBnd V) (hL : vLim V) (hpm : 0 ≤ pm ∧ pm ≤ 4) (hv : mOK V) (hZ : vZon V) (h18 : 0 ≤ V 18 ∧ V 18 ≤ 8) (hTX : ∀ i, inI (TX i)) (hWT : ∀ i, inI (WT i)) (hrt : ∀ i, 0 ≤ i → i < V 18 → 0 ≤ V (80 + 61 * i) ∧ V (80 + 61 * i) ≤ 60) (hVt : ∀ j, 80 ≤ j → j < 568 → inI (V j)) {s0 : Int → rdS} (hz : ∀ i, (s0 i).1 0 = 0 ∧ (s0 i).1 4 = 0 ∧ (s0 i).1 5 = 0) (hgd : ∀ i, 0 ≤ i → i < V 18 → ∀ n, ¬ rStop (txT V i) (s0 i) (V (80 + 61 * i)) n) (hpi0 : ∀ j, PI j = 0 ∨ PI j = 1) (hfl : ∀ j, inL (FL j)) (h19 : 0 ≤ V 19 ∧ V 19 ≤ 30) (h20 : 0 ≤ V 20 ∧ V 20 ≤ 20) (hpk : ∀ p, 0 ≤ p → p < V 19 → pkV V p) {p x y : Int} (hp : inI p) (hx : inI x) (hy : inI y) :
    GM1 w l yX7_dispute wsX7_dispute { frames := 5, cells := 0, slots := 0, locals := 118 } [.ref (gw_ad w 92), vI (p), vI (x), vI (y)] S
      (fun v S' => if (0 ≤ p ∧ p ≤ V 19 - 1) ∧ (0 ≤ x ∧ x ≤ 3) ∧ 1 ≤ y ∧ y ≤ (if x = 0 then 100000 else 2000) then (if mopZ V p < 0 ∧ 0 < V (24 + 14 * V (570 + 12 * p + 4)) then (if V 20 = 20 then v = vI (-1000003) ∧ S' = S else ∃ (xm1 at1 wm1 wh1 : Int) (ir1 : Bool) (TX1 WT1 MK1 MM1 CH1 AM1 WK1 FL1 PI1 : Int → Int), POSTM w S (actN pm) tm xm1 at1 wm1 wh1 ir1 (diV V (wiW V MK1 MM1 CH1 AM1 p x y) p x y) (actP pm PV V) TY TX1 MK1 MM1 CH1 AM1 WT1 WK1 FL1 PI1 S' ∧ (∀ i, inI (TX1 i)) ∧ (∀ i, inI (WT1 i)) ∧ (∀ j, inL (FL1 j)) ∧ (∀ j, PI1 j = 0 ∨ PI1 j = 1) ∧ (∀ j, 0 ≤ j → j < V 18 → Read (txT V j) (s0 j) j (V (80 + 61 * j)) MK1 (MM1 j) (CH1 j) (AM1 j) ∧ 0 ≤ MM1 j ∧ MM1 j ≤ 60) ∧ v = vI (V 20)) else v = vI (-1000002) ∧ S' = S) else v = vI (-1000001) ∧ S' = S) := by
  refine GM.start (own := RX7) (n := "dispute") (d := "(III)I") (by decide) rfl (Nat.le_of_ble_eq_true rfl) ?_
  intro X hX hR hXl
  subst hXl
  refine g_at rfl (lv2 := [(0, .ref (gw_ad w 92)), (1, vI (p)), (2, vI (x)), (3, vI (y))]) rfl rfl rfl ?_
  obtain ⟨⟨m92, m93, m94⟩, ⟨m95, m96⟩, ⟨m97, m98, m99, m100, m101⟩, ⟨m102, m103, m104⟩⟩ := (id hm)
  have hr := hv.r
  have hrm := rawV_m hr
  have hrb := rawV_b hr
  obtain ⟨⟨⟨⟨f0a, f0b⟩, ⟨f1a, f1b⟩, ⟨f2a, f2b⟩, ⟨f3a, f3b⟩⟩, ⟨⟨f4a, f4b⟩, ⟨f5a, f5b⟩, ⟨f6a, f6b⟩, ⟨f7a, f7b⟩⟩⟩, ⟨⟨a8a, a8b⟩, ⟨a9a, a9b⟩, ⟨a10a, a10b⟩, ⟨a11a, a11b⟩, ⟨a12a, a12b⟩, ⟨a13a, a13b⟩⟩, ⟨⟨a14a, a14b⟩, ⟨a15a, a15b⟩, ⟨a16a, a16b⟩, ⟨a17a, a17b⟩⟩⟩ := id hv
  refine g_aload_n (pc := 0) hX 0 rfl dX7_dispute_0 ?_
  refine g_iload_n (pc := 1) hX 1 rfl dX7_dispute_1 ?_
  refine g_callV1 (pc := 2) (ci := 7) (As := [vI (p)]) (st2 := []) hX 92 (by omega) m92 rfl (c_X7_isParcel hN hm hL (p := p) (by first | assumption | exact inI_mk (by omega) (by omega))) gX7_dispute_X7_isParcel (n := 1) (hw := rfl) (hrc := rfl) (hrs := rfl) (hd := by decide +kernel) (hR := ⟨Nat.le_of_ble_eq_true rfl, Nat.le_of_ble_eq_true rfl⟩) (hn := rfl) (hst := rfl) (hsum := Nat.le_of_ble_eq_true rfl) (hdg := dX7_dispute_2) ?_
  rintro _ S9 ⟨rfl, e9⟩
  rw [e9]
  clear e9 S9
  refine g_at (pc2 := 5) rfl rfl (st2 := [vI (bz (decide (0 ≤ p ∧ p ≤ V 19 - 1)))]) rfl (S2 := S) rfl ?_
  refine g_bif_eq (pc := 5) (tgt := 42) hX dX7_dispute_5 (by decide) (fun c_5 => ?_) (fun c_5 => ?_)
  · skip
    refine g_ldc (pc := 42) hX (z := -1000001) (List.mem_of_getElem? (i := 4) rfl) (by decide +kernel) dX7_dispute_42 ?_
    refine g_iret (pc := 44) hX hR dX7_dispute_44 ?_
    try simp only [decide_eq_true_eq, decide_eq_false_iff_not] at c_5
    exact (if_neg (fun h => by have h1 := h.1; have h2 := h.2.1; omega)).mpr (⟨rfl, rfl⟩)
  · skip
    have hp1 := of_decide_eq_true c_5
    refine g_iload_n (pc := 8) hX 2 rfl dX7_dispute_8 ?_
    refine g_i2l (pc := 9) hX (by first | assumption | exact inI_mk (by omega) (by omega)) dX7_dispute_9 ?_
    refine g_lconst (pc := 10) hX (z := 0) rfl dX7_dispute_10 ?_
    refine g_ldc2 (pc := 11) hX (z := 3) (List.mem_of_getElem? (i := 1) rfl) (by decide +kernel) dX7_dispute_11 ?_
    refine g_callT1 (pc := 14) (As := [vL (x), vL (0), vL (3)]) (st2 := []) hX (c_X7_in (x := x) (a := 0) (b := 3) (by first | assumption | exact inI_L (by assumption) | exact inL_mk (by omega) (by omega)) (by first | assumption | exact inI_L (by assumption) | exact inL_mk (by omega) (by omega)) (by first | assumption | exact inI_L (by assumption) | exact inL_mk (by omega) (by omega))) gX7_dispute_X7_in (n := 3) (hw := rfl) (hrc := rfl) (hrs := rfl) (hd := by decide +kernel) (hR := ⟨Nat.le_of_ble_eq_true rfl, Nat.le_of_ble_eq_true rfl⟩) (hn := rfl) (hst := rfl) (hsum := Nat.le_of_ble_eq_true rfl) (hdg := dX7_dispute_14) ?_
    rintro _ S9 ⟨rfl, e9⟩
    rw [e9]
    clear e9 S9
    refine g_at (pc2 := 17) rfl rfl (st2 := [vI (bz (decide (0 ≤ x ∧ x ≤ 3)))]) rfl (S2 := S) rfl ?_
    refine g_bif_eq (pc := 17) (tgt := 42) hX dX7_dispute_17 (by decide) (fun c_17 => ?_) (fun c_17 => ?_)
    · skip
      refine g_ldc (pc := 42) hX (z := -1000001) (List.mem_of_getElem? (i := 4) rfl) (by decide +kernel) dX7_dispute_42 ?_
      refine g_iret (pc := 44) hX hR dX7_dispute_44 ?_
      try simp only [decide_eq_true_eq, decide_eq_false_iff_not] at c_5 c_17
      exact (if_neg (fun h => by have h1 := h.1; have h2 := h.2.1; omega)).mpr (⟨rfl, rfl⟩)
    · skip
      have hx1 := of_decide_eq_true c_17
      refine g_iload_n (pc := 20) hX 3 rfl dX7_dispute_20 ?_
      refine g_i2l (pc := 21) hX (by first | assumption | exact inI_mk (by omega) (by omega)) dX7_dispute_21 ?_
      refine g_lconst (pc := 22) hX (z := 1) rfl dX7_dispute_22 ?_
      refine g_iload_n (pc := 23) hX 2 rfl dX7_dispute_23 ?_
      refine g_if_ne (pc := 24) (tgt := 33) hX (by first | assumption | exact inI_mk (by omega) (by omega)) dX7_dispute_24 (by decide) (fun c_24 => ?_) (fun c_24 => ?_)
      · skip
        refine g_ldc2 (pc := 33) hX (z := 2000) (List.mem_of_getElem? (i := 3) rfl) (by decide +kernel) dX7_dispute_33 ?_
        refine g_callT1 (pc := 36) (As := [vL (y), vL (1), vL (2000)]) (st2 := []) hX (c_X7_in (x := y) (a := 1) (b := 2000) (by first | assumption | exact inI_L (by assumption) | exact inL_mk (by omega) (by omega)) (by first | assumption | exact inI_L (by assumption) | exact inL_mk (by omega) (by omega)) (by first | assumption | exact inI_L (by assumption) | exact inL_mk (by omega) (by omega))) gX7_dispute_X7_in (n := 3) (hw := rfl) (hrc := rfl) (hrs := rfl) (hd := by decide +kernel) (hR := ⟨Nat.le_of_ble_eq_true rfl, Nat.le_of_ble_eq_true rfl⟩) (hn := rfl) (hst := rfl) (hsum := Nat.le_of_ble_eq_true rfl) (hdg := dX7_dispute_36) ?_
        rintro _ S9 ⟨rfl, e9⟩
        rw [e9]
        clear e9 S9
        refine g_at (pc2 := 39) rfl rfl (st2 := [vI (bz (decide (1 ≤ y ∧ y ≤ 2000)))]) rfl (S2 := S) rfl ?_
        refine g_bif_ne (pc := 39) (tgt := 45) hX dX7_dispute_39 (by decide) (fun c_39 => ?_) (fun c_39 => ?_)
        · skip
          have hy1 := of_decide_eq_true c_39
          refine g_aload_n (pc := 45) hX 0 rfl dX7_dispute_45 ?_
          refine g_iload_n (pc := 46) hX 1 rfl dX7_dispute_46 ?_
          refine g_callV1 (pc := 47) (ci := 7) (As := [vI (p)]) (st2 := []) hX 92 (by omega) m92 rfl (c_X7_openOf hN hm hL h20 (p := p) (by first | assumption | exact inI_mk (by omega) (by omega))) gX7_dispute_X7_openOf (n := 1) (hw := rfl) (hrc := rfl) (hrs := rfl) (hd := by decide +kernel) (hR := ⟨Nat.le_of_ble_eq_true rfl, Nat.le_of_ble_eq_true rfl⟩) (hn := rfl) (hst := rfl) (hsum := Nat.le_of_ble_eq_true rfl) (hdg := dX7_dispute_47) ?_
          rintro _ S9 ⟨rfl, e9⟩
          rw [e9]
          clear e9 S9
          refine g_at (pc2 := 50) rfl rfl (st2 := [vI (mopZ V p)]) rfl (S2 := S) rfl ?_
          refine g_if_ge (pc := 50) (tgt := 61) hX (mopZ_in h20 p) dX7_dispute_50 (by decide) (fun c_50 => ?_) (fun c_50 => ?_)
          · skip
            refine g_ldc (pc := 61) hX (z := -1000002) (List.mem_of_getElem? (i := 5) rfl) (by decide +kernel) dX7_dispute_61 ?_
            refine g_iret (pc := 63) hX hR dX7_dispute_63 ?_
            try simp only [decide_eq_true_eq, decide_eq_false_iff_not] at c_5 c_17 c_24 c_39 c_50
            exact (if_pos (by rw [if_neg (by omega)]; omega)).mpr ((if_neg (by omega)).mpr (⟨rfl, rfl⟩))
          · skip
            refine g_aload_n (pc := 53) hX 0 rfl dX7_dispute_53 ?_
            refine g_iload_n (pc := 54) hX 1 rfl dX7_dispute_54 ?_
            refine g_callV1 (pc := 55) (ci := 7) (As := [vI (p)]) (st2 := []) hX 92 (by omega) m92 rfl (c_X7_hasBands hN hm (p := p) (by omega) (hpk p hp1.1 (by omega)).2.2.2.2 hB) gX7_dispute_X7_hasBands (n := 1) (hw := rfl) (hrc := rfl) (hrs := rfl) (hd := by decide +kernel) (hR := ⟨Nat.le_of_ble_eq_true rfl, Nat.le_of_ble_eq_true rfl⟩) (hn := rfl) (hst := rfl) (hsum := Nat.le_of_ble_eq_true rfl) (hdg := dX7_dispute_55) ?_
            rintro _ S9 ⟨rfl, e9⟩
            rw [e9]
            clear e9 S9
            refine g_at (pc2 := 58) rfl rfl (st2 := [vI (bz (decide (0 < V (24 + 14 * V (570 + 12 * p + 4)))))]) rfl (S2 := S) rfl ?_
            refine g_bif_ne (pc := 58) (tgt := 64) hX dX7_dispute_58 (by decide) (fun c_58 => ?_) (fun c_58 => ?_)
            · skip
              have hcb := of_decide_eq_true c_58
              refine g_aload_n (pc := 64) hX 0 rfl dX7_dispute_64 ?_
              refine g_get (pc := 65) hX (ci := 7) (fun _ h => List.mem_cons_of_mem _ (List.mem_append_right _ h)) rfl 92 (by omega) m92 0 (by decide) (List.mem_of_getElem? (i := 6) rfl) rfl (v := .ref (gw_ad w 93)) rfl dX7_dispute_65 ?_
              refine g_bipush (pc := 68) hX (by decide) dX7_dispute_68 ?_
              refine g_lald (pc := 70) hX 93 (by omega) m93 (by omega) (by omega) (by decide) dX7_dispute_70 ?_
              refine g_ldc2 (pc := 71) hX (z := 20) (List.mem_of_getElem? (i := 7) rfl) (by decide +kernel) dX7_dispute_71 ?_
              refine g_lcmp_ne (pc := 74) (tgt := 81) hX (by first | assumption | exact inI_L (by assumption) | exact inL_mk (by omega) (by omega)) (by first | assumption | exact inI_L (by assumption) | exact inL_mk (by omega) (by omega)) dX7_dispute_74 dX7_dispute_75 (by decide) (fun c_74 => ?_) (fun c_74 => ?_)
              · skip
                refine g_aload_n (pc := 81) hX 0 rfl dX7_dispute_81 ?_
                refine g_callV0 (pc := 82) (ci := 7) (As := []) (st2 := []) hX 92 (by omega) m92 rfl (c_X7_act hN hm hpm) gX7_dispute_X7_act (n := 0) (hw := rfl) (hrc := rfl) (hrs := rfl) (hd := by decide +kernel) (hR := ⟨Nat.le_of_ble_eq_true rfl, Nat.le_of_ble_eq_true rfl⟩) (hn := rfl) (hst := rfl) (hsum := Nat.le_of_ble_eq_true rfl) (hdg := dX7_dispute_82) ?_
                rintro S82 hP82
                obtain ⟨⟨m82_92, m82_93, m82_94⟩, ⟨m82_95, m82_96⟩, ⟨m82_97, m82_98, m82_99, m82_100, m82_101⟩, ⟨m82_102, m82_103, m82_104⟩⟩ := hP82.1
                refine g_at (pc2 := 85) rfl rfl (st2 := []) rfl (S2 := S82) rfl ?_
                refine g_aload_n (pc := 85) hX 0 rfl dX7_dispute_85 ?_
                refine g_callV0 (pc := 86) (ci := 7) (As := []) (st2 := []) hX 92 (by omega) m82_92 rfl (c_X7_readsRules hN (show modelAt w (actN pm) tm xm at_ wm wh ir V (actP pm PV V) TY TX MK MM CH AM WT WK FL PI S82 from ⟨⟨m82_92, m82_93, m82_94⟩, ⟨m82_95, m82_96⟩, ⟨m82_97, m82_98, m82_99, m82_100, m82_101⟩, ⟨m82_102, m82_103, m82_104⟩⟩) h18 hTX hWT hrt hVt hz hgd) gX7_dispute_X7_readsRules (n := 0) (hw := rfl) (hrc := rfl) (hrs := rfl) (hd := by decide +kernel) (hR := ⟨Nat.le_of_ble_eq_true rfl, Nat.le_of_ble_eq_true rfl⟩) (hn := rfl) (hst := rfl) (hsum := Nat.le_of_ble_eq_true rfl) (hdg := dX7_dispute_86) ?_
                rintro S86 ⟨xm86, at86, wm86, wh86, ir86, TX86, WT86, MK86, MM86, CH86, AM86, hP86, hT86, hW86, hRd86⟩
                obtain ⟨⟨m86_92, m86_93, m86_94⟩, ⟨m86_95, m86_96⟩, ⟨m86_97, m86_98, m86_99, m86_100, m86_101⟩, ⟨m86_102, m86_103, m86_104⟩⟩ := hP86.1
                have hRK86 := RMK_r hRd86
                refine g_at (pc2 := 89) rfl rfl (st2 := []) rfl (S2 := S86) rfl ?_
                refine g_aload_n (pc := 89) hX 0 rfl dX7_dispute_89 ?_
                refine g_get (pc := 90) hX (ci := 7) (fun _ h => List.mem_cons_of_mem _ (List.mem_append_right _ h)) rfl 92 (by omega) m86_92 0 (by decide) (List.mem_of_getElem? (i := 6) rfl) rfl (v := .ref (gw_ad w 93)) rfl dX7_dispute_90 ?_
                refine g_bipush (pc := 93) hX (by decide) dX7_dispute_93 ?_
                refine g_lald (pc := 95) hX 93 (by omega) m86_93 (by omega) (by omega) (by decide) dX7_dispute_95 ?_
                refine g_l2i (pc := 96) hX dX7_dispute_96 ?_
                refine g_istore (pc := 97) hX (lv2 := [(4, vI (V 20)), (0, .ref (gw_ad w 92)), (1, vI (p)), (2, vI (x)), (3, vI (y))]) (by decide) rfl dX7_dispute_97 ?_
                refine g_aload_n (pc := 99) hX 1 rfl dX7_dispute_99 ?_
                refine g_get (pc := 100) hX (ci := 7) (fun _ h => List.mem_cons_of_mem _ (List.mem_append_right _ h)) rfl 92 (by omega) m86_92 0 (by decide) (List.mem_of_getElem? (i := 6) rfl) rfl (v := .ref (gw_ad w 93)) rfl dX7_dispute_100 ?_
                refine g_iload (pc := 103) hX 0 rfl dX7_dispute_103 ?_
                refine g_iconst (pc := 105) hX dX7_dispute_105 ?_
                refine g_callT1 (pc := 106) (As := [vI (V 20), vI (0)]) (st2 := [.ref (gw_ad w 93)]) hX (c_X7_noteAt (z := V 20) (k := 0)) gX7_dispute_X7_noteAt (n := 2) (hw := rfl) (hrc := rfl) (hrs := rfl) (hd := by decide +kernel) (hR := ⟨Nat.le_of_ble_eq_true rfl, Nat.le_of_ble_eq_true rfl⟩) (hn := rfl) (hst := rfl) (hsum := Nat.le_of_ble_eq_true rfl) (hdg := dX7_dispute_106) ?_
                rintro _ S9 ⟨rfl, e9⟩
                rw [e9]
                clear e9 S9
                refine g_at (pc2 := 109) rfl rfl (st2 := [vI (940 + 12 * (V 20) + 0), .ref (gw_ad w 93)]) rfl (S2 := S86) rfl ?_
                refine g_iload_n (pc := 109) hX 2 rfl dX7_dispute_109 ?_
                refine g_i2l (pc := 110) hX (by first | assumption | exact inI_mk (by omega) (by omega)) dX7_dispute_110 ?_
                refine g_last (pc := 111) hX 93 (by omega) m86_93 (by omega) (by omega) (by decide) dX7_dispute_111 ?_
                refine g_at rfl rfl rfl (S2 := (va_up S86 93 (AJ w 1200 (updZ (V) (940 + 12 * (V 20) + 0) (p))))) rfl ?_
                refine g_aload_n (pc := 112) hX 1 rfl dX7_dispute_112 ?_
                refine g_get (pc := 113) hX (ci := 7) (fun _ h => List.mem_cons_of_mem _ (List.mem_append_right _ h)) rfl 92 (by omega) (up_ne (by decide) m86_92) 0 (by decide) (List.mem_of_getElem? (i := 6) rfl) rfl (v := .ref (gw_ad w 93)) rfl dX7_dispute_113 ?_
                refine g_iload (pc := 116) hX 0 rfl dX7_dispute_116 ?_
                refine g_iconst (pc := 118) hX dX7_dispute_118 ?_
                refine g_callT1 (pc := 119) (As := [vI (V 20), vI (1)]) (st2 := [.ref (gw_ad w 93)]) hX (c_X7_noteAt (z := V 20) (k := 1)) gX7_dispute_X7_noteAt (n := 2) (hw := rfl) (hrc := rfl) (hrs := rfl) (hd := by decide +kernel) (hR := ⟨Nat.le_of_ble_eq_true rfl, Nat.le_of_ble_eq_true rfl⟩) (hn := rfl) (hst := rfl) (hsum := Nat.le_of_ble_eq_true rfl) (hdg := dX7_dispute_119) ?_
                rintro _ S9 ⟨rfl, e9⟩
                rw [e9]
                clear e9 S9
                refine g_at (pc2 := 122) rfl rfl (st2 := [vI (940 + 12 * (V 20) + 1), .ref (gw_ad w 93)]) rfl (S2 := (va_up S86 93 (AJ w 1200 (updZ (V) (940 + 12 * (V 20) + 0) (p))))) rfl ?_
                refine g_iload_n (pc := 122) hX 3 rfl dX7_dispute_122 ?_
                refine g_i2l (pc := 123) hX (by first | assumption | exact inI_mk (by omega) (by omega)) dX7_dispute_123 ?_
                refine g_last (pc := 124) hX 93 (by omega) (up_eq _ _ _) (by omega) (by omega) (by decide) dX7_dispute_124 ?_
                refine g_at rfl rfl rfl (S2 := (va_up (va_up S86 93 (AJ w 1200 (updZ (V) (940 + 12 * (V 20) + 0) (p)))) 93 (AJ w 1200 (updZ (updZ (V) (940 + 12 * (V 20) + 0) (p)) (940 + 12 * (V 20) + 1) (x))))) rfl ?_
                refine g_aload_n (pc := 125) hX 1 rfl dX7_dispute_125 ?_
                refine g_get (pc := 126) hX (ci := 7) (fun _ h => List.mem_cons_of_mem _ (List.mem_append_right _ h)) rfl 92 (by omega) (up_ne (by decide) (up_ne (by decide) m86_92)) 0 (by decide) (List.mem_of_getElem? (i := 6) rfl) rfl (v := .ref (gw_ad w 93)) rfl dX7_dispute_126 ?_
                refine g_iload (pc := 129) hX 0 rfl dX7_dispute_129 ?_
                refine g_iconst (pc := 131) hX dX7_dispute_131 ?_
                refine g_callT1 (pc := 132) (As := [vI (V 20), vI (2)]) (st2 := [.ref (gw_ad w 93)]) hX (c_X7_noteAt (z := V 20) (k := 2)) gX7_dispute_X7_noteAt (n := 2) (hw := rfl) (hrc := rfl) (hrs := rfl) (hd := by decide +kernel) (hR := ⟨Nat.le_of_ble_eq_true rfl, Nat.le_of_ble_eq_true rfl⟩) (hn := rfl) (hst := rfl) (hsum := Nat.le_of_ble_eq_true rfl) (hdg := dX7_dispute_132) ?_
                rintro _ S9 ⟨rfl, e9⟩
                rw [e9]
                clear e9 S9
                refine g_at (pc2 := 135) rfl rfl (st2 := [vI (940 + 12 * (V 20) + 2), .ref (gw_ad w 93)]) rfl (S2 := (va_up (va_up S86 93 (AJ w 1200 (updZ (V) (940 + 12 * (V 20) + 0) (p)))) 93 (AJ w 1200 (updZ (updZ (V) (940 + 12 * (V 20) + 0) (p)) (940 + 12 * (V 20) + 1) (x))))) rfl ?_
                refine g_iload_n (pc := 135) hX 4 rfl dX7_dispute_135 ?_
                refine g_i2l (pc := 136) hX (by first | assumption | exact inI_mk (by omega) (by omega)) dX7_dispute_136 ?_
                refine g_last (pc := 137) hX 93 (by omega) (up_eq _ _ _) (by omega) (by omega) (by decide) dX7_dispute_137 ?_
                refine g_at rfl rfl rfl (S2 := (va_up (va_up (va_up S86 93 (AJ w 1200 (updZ (V) (940 + 12 * (V 20) + 0) (p)))) 93 (AJ w 1200 (updZ (updZ (V) (940 + 12 * (V 20) + 0) (p)) (940 + 12 * (V 20) + 1) (x)))) 93 (AJ w 1200 (updZ (updZ (updZ (V) (940 + 12 * (V 20) + 0) (p)) (940 + 12 * (V 20) + 1) (x)) (940 + 12 * (V 20) + 2) (y))))) rfl ?_
                obtain ⟨V1, eV1⟩ : ∃ f : Int → Int, f = updZ (updZ (updZ (V) (940 + 12 * (V 20) + 0) (p)) (940 + 12 * (V 20) + 1) (x)) (940 + 12 * (V 20) + 2) (y) := ⟨_, rfl⟩
                refine g_at rfl rfl rfl (S2 := (va_up (va_up (va_up S86 93 (AJ w 1200 (updZ (V) (940 + 12 * (V 20) + 0) (p)))) 93 (AJ w 1200 (updZ (updZ (V) (940 + 12 * (V 20) + 0) (p)) (940 + 12 * (V 20) + 1) (x)))) 93 (AJ w 1200 (V1)))) (by rw [eV1]) ?_
                have hlo : lo940 V1 V := fun j hj => by rw [eV1, updZ_ne _ _ (by omega), updZ_ne _ _ (by omega), updZ_ne _ _ (by omega)]
                have hL1 : vLim V1 := by rw [eV1]; exact vLim_up (vLim_up (vLim_up hL ⟨by omega, by omega⟩) ⟨by omega, by omega⟩) ⟨by omega, by omega⟩
                have hkp := hpk p hp1.1 (by omega)
                have hwo : wiOK x y := ⟨fun h => ⟨by omega, by omega⟩, fun h => ⟨by omega, by omega⟩⟩
                have hc1 : 1 ≤ V1 (24 + 14 * V1 (570 + 12 * p + 4)) := by have := hkp.2.2.2.2; rw [hlo (570 + 12 * p + 4) (by omega), hlo _ (by omega)]; omega
                have ewi : wiW V1 MK86 MM86 CH86 AM86 p x y = wiW V MK86 MM86 CH86 AM86 p x y := wiW_c (by omega) hlo hB hkp
                refine g_aload_n (pc := 138) hX 1 rfl dX7_dispute_138 ?_
                refine g_get (pc := 139) hX (ci := 7) (fun _ h => List.mem_cons_of_mem _ (List.mem_append_right _ h)) rfl 92 (by omega) (up_ne (by decide) (up_ne (by decide) (up_ne (by decide) m86_92))) 0 (by decide) (List.mem_of_getElem? (i := 6) rfl) rfl (v := .ref (gw_ad w 93)) rfl dX7_dispute_139 ?_
                refine g_iload (pc := 142) hX 0 rfl dX7_dispute_142 ?_
                refine g_iconst (pc := 144) hX dX7_dispute_144 ?_
                refine g_callT1 (pc := 145) (As := [vI (V 20), vI (3)]) (st2 := [.ref (gw_ad w 93)]) hX (c_X7_noteAt (z := V 20) (k := 3)) gX7_dispute_X7_noteAt (n := 2) (hw := rfl) (hrc := rfl) (hrs := rfl) (hd := by decide +kernel) (hR := ⟨Nat.le_of_ble_eq_true rfl, Nat.le_of_ble_eq_true rfl⟩) (hn := rfl) (hst := rfl) (hsum := Nat.le_of_ble_eq_true rfl) (hdg := dX7_dispute_145) ?_
                rintro _ S9 ⟨rfl, e9⟩
                rw [e9]
                clear e9 S9
                refine g_at (pc2 := 148) rfl rfl (st2 := [vI (940 + 12 * (V 20) + 3), .ref (gw_ad w 93)]) rfl (S2 := (va_up (va_up (va_up S86 93 (AJ w 1200 (updZ (V) (940 + 12 * (V 20) + 0) (p)))) 93 (AJ w 1200 (updZ (updZ (V) (940 + 12 * (V 20) + 0) (p)) (940 + 12 * (V 20) + 1) (x)))) 93 (AJ w 1200 (V1)))) rfl ?_
                refine g_aload_n (pc := 148) hX 1 rfl dX7_dispute_148 ?_
                refine g_iload_n (pc := 149) hX 2 rfl dX7_dispute_149 ?_
                refine g_iload_n (pc := 150) hX 3 rfl dX7_dispute_150 ?_
                refine g_iload_n (pc := 151) hX 4 rfl dX7_dispute_151 ?_
                refine g_i2l (pc := 152) hX (by first | assumption | exact inI_mk (by omega) (by omega)) dX7_dispute_152 ?_
                refine g_callV1 (pc := 153) (ci := 7) (As := [vI (p), vI (x), vL (y)]) (st2 := [vI (940 + 12 * (V 20) + 3), .ref (gw_ad w 93)]) hX 92 (by omega) (up_ne (by decide) (up_ne (by decide) (up_ne (by decide) m86_92))) rfl (c_X7_with hN (show modelAt w (actN pm) tm xm86 at86 wm86 wh86 ir86 V1 (actP pm PV V) TY TX86 MK86 MM86 CH86 AM86 WT86 WK FL PI (va_up (va_up (va_up S86 93 (AJ w 1200 (updZ (V) (940 + 12 * (V 20) + 0) (p)))) 93 (AJ w 1200 (updZ (updZ (V) (940 + 12 * (V 20) + 0) (p)) (940 + 12 * (V 20) + 1) (x)))) 93 (AJ w 1200 (V1))) from ⟨⟨(up_ne (by decide) (up_ne (by decide) (up_ne (by decide) m86_92))), (up_eq _ _ _), (up_ne (by decide) (up_ne (by decide) (up_ne (by decide) m86_94)))⟩, ⟨(up_ne (by decide) (up_ne (by decide) (up_ne (by decide) m86_95))), (up_ne (by decide) (up_ne (by decide) (up_ne (by decide) m86_96)))⟩, ⟨(up_ne (by decide) (up_ne (by decide) (up_ne (by decide) m86_97))), (up_ne (by decide) (up_ne (by decide) (up_ne (by decide) m86_98))), (up_ne (by decide) (up_ne (by decide) (up_ne (by decide) m86_99))), (up_ne (by decide) (up_ne (by decide) (up_ne (by decide) m86_100))), (up_ne (by decide) (up_ne (by decide) (up_ne (by decide) m86_101)))⟩, ⟨(up_ne (by decide) (up_ne (by decide) (up_ne (by decide) m86_102))), (up_ne (by decide) (up_ne (by decide) (up_ne (by decide) m86_103))), (up_ne (by decide) (up_ne (by decide) (up_ne (by decide) m86_104)))⟩⟩) (hlo.bnd hB) hL1 (hlo.ok hv) (hlo.zon hB hZ) (hlo.rmk hRK86) (by rw [hlo 18 (by decide)]; exact h18) hpi0 hfl (p := p) (x := x) (val := y) ⟨by omega, by omega⟩ (by omega) (hlo.pk (by omega) hkp) hwo hc1) gX7_dispute_X7_with (n := 3) (hw := rfl) (hrc := rfl) (hrs := rfl) (hd := by decide +kernel) (hR := ⟨Nat.le_of_ble_eq_true rfl, Nat.le_of_ble_eq_true rfl⟩) (hn := rfl) (hst := rfl) (hsum := Nat.le_of_ble_eq_true rfl) (hdg := dX7_dispute_153) ?_
                rintro _ S153 ⟨rfl, WK153, FL153, PI153, hfl153, hwk153, hpi153, hP153⟩
                obtain ⟨⟨m153_92, m153_93, m153_94⟩, ⟨m153_95, m153_96⟩, ⟨m153_97, m153_98, m153_99, m153_100, m153_101⟩, ⟨m153_102, m153_103, m153_104⟩⟩ := hP153.1
                refine g_at (pc2 := 156) rfl rfl (st2 := [vL (wiW V1 MK86 MM86 CH86 AM86 p x y 8), vI (940 + 12 * (V 20) + 3), .ref (gw_ad w 93)]) rfl (S2 := S153) rfl ?_
                refine g_at rfl rfl (st2 := [vL (WK153 8), vI (940 + 12 * (V 20) + 3), .ref (gw_ad w 93)]) (by rw [show wiW V1 MK86 MM86 CH86 AM86 p x y 8 = WK153 8 from (hwk153 8 (by decide) (by decide)).symm]) rfl ?_
                refine g_last (pc := 156) hX 93 (by omega) m153_93 (by omega) (by omega) (by decide) dX7_dispute_156 ?_
                refine g_at rfl rfl rfl (S2 := (va_up S153 93 (AJ w 1200 (updZ (V1) (940 + 12 * (V 20) + 3) (WK153 8))))) rfl ?_
                refine g_aload_n (pc := 157) hX 1 rfl dX7_dispute_157 ?_
                refine g_get (pc := 158) hX (ci := 7) (fun _ h => List.mem_cons_of_mem _ (List.mem_append_right _ h)) rfl 92 (by omega) (up_ne (by decide) m153_92) 0 (by decide) (List.mem_of_getElem? (i := 6) rfl) rfl (v := .ref (gw_ad w 93)) rfl dX7_dispute_158 ?_
                refine g_iload (pc := 161) hX 0 rfl dX7_dispute_161 ?_
                refine g_iconst (pc := 163) hX dX7_dispute_163 ?_
                refine g_callT1 (pc := 164) (As := [vI (V 20), vI (4)]) (st2 := [.ref (gw_ad w 93)]) hX (c_X7_noteAt (z := V 20) (k := 4)) gX7_dispute_X7_noteAt (n := 2) (hw := rfl) (hrc := rfl) (hrs := rfl) (hd := by decide +kernel) (hR := ⟨Nat.le_of_ble_eq_true rfl, Nat.le_of_ble_eq_true rfl⟩) (hn := rfl) (hst := rfl) (hsum := Nat.le_of_ble_eq_true rfl) (hdg := dX7_dispute_164) ?_
                rintro _ S9 ⟨rfl, e9⟩
                rw [e9]
                clear e9 S9
                refine g_at (pc2 := 167) rfl rfl (st2 := [vI (940 + 12 * (V 20) + 4), .ref (gw_ad w 93)]) rfl (S2 := (va_up S153 93 (AJ w 1200 (updZ (V1) (940 + 12 * (V 20) + 3) (WK153 8))))) rfl ?_
                refine g_lconst (pc := 167) hX (z := 0) rfl dX7_dispute_167 ?_
                refine g_last (pc := 168) hX 93 (by omega) (up_eq _ _ _) (by omega) (by omega) (by decide) dX7_dispute_168 ?_
                refine g_at rfl rfl rfl (S2 := (va_up (va_up S153 93 (AJ w 1200 (updZ (V1) (940 + 12 * (V 20) + 3) (WK153 8)))) 93 (AJ w 1200 (updZ (updZ (V1) (940 + 12 * (V 20) + 3) (WK153 8)) (940 + 12 * (V 20) + 4) (0))))) rfl ?_
                refine g_aload_n (pc := 169) hX 1 rfl dX7_dispute_169 ?_
                refine g_get (pc := 170) hX (ci := 7) (fun _ h => List.mem_cons_of_mem _ (List.mem_append_right _ h)) rfl 92 (by omega) (up_ne (by decide) (up_ne (by decide) m153_92)) 0 (by decide) (List.mem_of_getElem? (i := 6) rfl) rfl (v := .ref (gw_ad w 93)) rfl dX7_dispute_170 ?_
                refine g_iload (pc := 173) hX 0 rfl dX7_dispute_173 ?_
                refine g_iconst (pc := 175) hX dX7_dispute_175 ?_
                refine g_callT1 (pc := 176) (As := [vI (V 20), vI (5)]) (st2 := [.ref (gw_ad w 93)]) hX (c_X7_noteAt (z := V 20) (k := 5)) gX7_dispute_X7_noteAt (n := 2) (hw := rfl) (hrc := rfl) (hrs := rfl) (hd := by decide +kernel) (hR := ⟨Nat.le_of_ble_eq_true rfl, Nat.le_of_ble_eq_true rfl⟩) (hn := rfl) (hst := rfl) (hsum := Nat.le_of_ble_eq_true rfl) (hdg := dX7_dispute_176) ?_
                rintro _ S9 ⟨rfl, e9⟩
                rw [e9]
                clear e9 S9
                refine g_at (pc2 := 179) rfl rfl (st2 := [vI (940 + 12 * (V 20) + 5), .ref (gw_ad w 93)]) rfl (S2 := (va_up (va_up S153 93 (AJ w 1200 (updZ (V1) (940 + 12 * (V 20) + 3) (WK153 8)))) 93 (AJ w 1200 (updZ (updZ (V1) (940 + 12 * (V 20) + 3) (WK153 8)) (940 + 12 * (V 20) + 4) (0))))) rfl ?_
                refine g_lconst (pc := 179) hX (z := 0) rfl dX7_dispute_179 ?_
                refine g_last (pc := 180) hX 93 (by omega) (up_eq _ _ _) (by omega) (by omega) (by decide) dX7_dispute_180 ?_
                refine g_at rfl rfl rfl (S2 := (va_up (va_up (va_up S153 93 (AJ w 1200 (updZ (V1) (940 + 12 * (V 20) + 3) (WK153 8)))) 93 (AJ w 1200 (updZ (updZ (V1) (940 + 12 * (V 20) + 3) (WK153 8)) (940 + 12 * (V 20) + 4) (0)))) 93 (AJ w 1200 (updZ (updZ (updZ (V1) (940 + 12 * (V 20) + 3) (WK153 8)) (940 + 12 * (V 20) + 4) (0)) (940 + 12 * (V 20) + 5) (0))))) rfl ?_
                refine g_aload_n (pc := 181) hX 1 rfl dX7_dispute_181 ?_
                refine g_get (pc := 182) hX (ci := 7) (fun _ h => List.mem_cons_of_mem _ (List.mem_append_right _ h)) rfl 92 (by omega) (up_ne (by decide) (up_ne (by decide) (up_ne (by decide) m153_92))) 0 (by decide) (List.mem_of_getElem? (i := 6) rfl) rfl (v := .ref (gw_ad w 93)) rfl dX7_dispute_182 ?_
                refine g_iload (pc := 185) hX 0 rfl dX7_dispute_185 ?_
                refine g_bipush (pc := 187) hX (by decide) dX7_dispute_187 ?_
                refine g_callT1 (pc := 189) (As := [vI (V 20), vI (6)]) (st2 := [.ref (gw_ad w 93)]) hX (c_X7_noteAt (z := V 20) (k := 6)) gX7_dispute_X7_noteAt (n := 2) (hw := rfl) (hrc := rfl) (hrs := rfl) (hd := by decide +kernel) (hR := ⟨Nat.le_of_ble_eq_true rfl, Nat.le_of_ble_eq_true rfl⟩) (hn := rfl) (hst := rfl) (hsum := Nat.le_of_ble_eq_true rfl) (hdg := dX7_dispute_189) ?_
                rintro _ S9 ⟨rfl, e9⟩
                rw [e9]
                clear e9 S9
                refine g_at (pc2 := 192) rfl rfl (st2 := [vI (940 + 12 * (V 20) + 6), .ref (gw_ad w 93)]) rfl (S2 := (va_up (va_up (va_up S153 93 (AJ w 1200 (updZ (V1) (940 + 12 * (V 20) + 3) (WK153 8)))) 93 (AJ w 1200 (updZ (updZ (V1) (940 + 12 * (V 20) + 3) (WK153 8)) (940 + 12 * (V 20) + 4) (0)))) 93 (AJ w 1200 (updZ (updZ (updZ (V1) (940 + 12 * (V 20) + 3) (WK153 8)) (940 + 12 * (V 20) + 4) (0)) (940 + 12 * (V 20) + 5) (0))))) rfl ?_
                refine g_aload_n (pc := 192) hX 1 rfl dX7_dispute_192 ?_
                refine g_get (pc := 193) hX (ci := 7) (fun _ h => List.mem_cons_of_mem _ (List.mem_append_right _ h)) rfl 92 (by omega) (up_ne (by decide) (up_ne (by decide) (up_ne (by decide) m153_92))) 16 (by decide) (List.mem_of_getElem? (i := 9) rfl) rfl (v := .ref (gw_ad w 102)) rfl dX7_dispute_193 ?_
                refine g_iconst (pc := 196) hX dX7_dispute_196 ?_
                refine g_lald (pc := 197) hX 102 (by omega) (up_ne (by decide) (up_ne (by decide) (up_ne (by decide) m153_102))) (by omega) (by omega) (by decide) dX7_dispute_197 ?_
                refine g_last (pc := 198) hX 93 (by omega) (up_eq _ _ _) (by omega) (by omega) (by decide) dX7_dispute_198 ?_
                refine g_at rfl rfl rfl (S2 := (va_up (va_up (va_up (va_up S153 93 (AJ w 1200 (updZ (V1) (940 + 12 * (V 20) + 3) (WK153 8)))) 93 (AJ w 1200 (updZ (updZ (V1) (940 + 12 * (V 20) + 3) (WK153 8)) (940 + 12 * (V 20) + 4) (0)))) 93 (AJ w 1200 (updZ (updZ (updZ (V1) (940 + 12 * (V 20) + 3) (WK153 8)) (940 + 12 * (V 20) + 4) (0)) (940 + 12 * (V 20) + 5) (0)))) 93 (AJ w 1200 (updZ (updZ (updZ (updZ (V1) (940 + 12 * (V 20) + 3) (WK153 8)) (940 + 12 * (V 20) + 4) (0)) (940 + 12 * (V 20) + 5) (0)) (940 + 12 * (V 20) + 6) (WK153 5))))) rfl ?_
                refine g_aload_n (pc := 199) hX 1 rfl dX7_dispute_199 ?_
                refine g_get (pc := 200) hX (ci := 7) (fun _ h => List.mem_cons_of_mem _ (List.mem_append_right _ h)) rfl 92 (by omega) (up_ne (by decide) (up_ne (by decide) (up_ne (by decide) (up_ne (by decide) m153_92)))) 0 (by decide) (List.mem_of_getElem? (i := 6) rfl) rfl (v := .ref (gw_ad w 93)) rfl dX7_dispute_200 ?_
                refine g_iload (pc := 203) hX 0 rfl dX7_dispute_203 ?_
                refine g_bipush (pc := 205) hX (by decide) dX7_dispute_205 ?_
                refine g_callT1 (pc := 207) (As := [vI (V 20), vI (7)]) (st2 := [.ref (gw_ad w 93)]) hX (c_X7_noteAt (z := V 20) (k := 7)) gX7_dispute_X7_noteAt (n := 2) (hw := rfl) (hrc := rfl) (hrs := rfl) (hd := by decide +kernel) (hR := ⟨Nat.le_of_ble_eq_true rfl, Nat.le_of_ble_eq_true rfl⟩) (hn := rfl) (hst := rfl) (hsum := Nat.le_of_ble_eq_true rfl) (hdg := dX7_dispute_207) ?_
                rintro _ S9 ⟨rfl, e9⟩
                rw [e9]
                clear e9 S9
                refine g_at (pc2 := 210) rfl rfl (st2 := [vI (940 + 12 * (V 20) + 7), .ref (gw_ad w 93)]) rfl (S2 := (va_up (va_up (va_up (va_up S153 93 (AJ w 1200 (updZ (V1) (940 + 12 * (V 20) + 3) (WK153 8)))) 93 (AJ w 1200 (updZ (updZ (V1) (940 + 12 * (V 20) + 3) (WK153 8)) (940 + 12 * (V 20) + 4) (0)))) 93 (AJ w 1200 (updZ (updZ (updZ (V1) (940 + 12 * (V 20) + 3) (WK153 8)) (940 + 12 * (V 20) + 4) (0)) (940 + 12 * (V 20) + 5) (0)))) 93 (AJ w 1200 (updZ (updZ (updZ (updZ (V1) (940 + 12 * (V 20) + 3) (WK153 8)) (940 + 12 * (V 20) + 4) (0)) (940 + 12 * (V 20) + 5) (0)) (940 + 12 * (V 20) + 6) (WK153 5))))) rfl ?_
                refine g_aload_n (pc := 210) hX 1 rfl dX7_dispute_210 ?_
                refine g_get (pc := 211) hX (ci := 7) (fun _ h => List.mem_cons_of_mem _ (List.mem_append_right _ h)) rfl 92 (by omega) (up_ne (by decide) (up_ne (by decide) (up_ne (by decide) (up_ne (by decide) m153_92)))) 16 (by decide) (List.mem_of_getElem? (i := 9) rfl) rfl (v := .ref (gw_ad w 102)) rfl dX7_dispute_211 ?_
                refine g_bipush (pc := 214) hX (by decide) dX7_dispute_214 ?_
                refine g_lald (pc := 216) hX 102 (by omega) (up_ne (by decide) (up_ne (by decide) (up_ne (by decide) (up_ne (by decide) m153_102)))) (by omega) (by omega) (by decide) dX7_dispute_216 ?_
                refine g_last (pc := 217) hX 93 (by omega) (up_eq _ _ _) (by omega) (by omega) (by decide) dX7_dispute_217 ?_
                refine g_at rfl rfl rfl (S2 := (va_up (va_up (va_up (va_up (va_up S153 93 (AJ w 1200 (updZ (V1) (940 + 12 * (V 20) + 3) (WK153 8)))) 93 (AJ w 1200 (updZ (updZ (V1) (940 + 12 * (V 20) + 3) (WK153 8)) (940 + 12 * (V 20) + 4) (0)))) 93 (AJ w 1200 (updZ (updZ (updZ (V1) (940 + 12 * (V 20) + 3) (WK153 8)) (940 + 12 * (V 20) + 4) (0)) (940 + 12 * (V 20) + 5) (0)))) 93 (AJ w 1200 (updZ (updZ (updZ (updZ (V1) (940 + 12 * (V 20) + 3) (WK153 8)) (940 + 12 * (V 20) + 4) (0)) (940 + 12 * (V 20) + 5) (0)) (940 + 12 * (V 20) + 6) (WK153 5)))) 93 (AJ w 1200 (updZ (updZ (updZ (updZ (updZ (V1) (940 + 12 * (V 20) + 3) (WK153 8)) (940 + 12 * (V 20) + 4) (0)) (940 + 12 * (V 20) + 5) (0)) (940 + 12 * (V 20) + 6) (WK153 5)) (940 + 12 * (V 20) + 7) (WK153 6))))) rfl ?_
                refine g_aload_n (pc := 218) hX 1 rfl dX7_dispute_218 ?_
                refine g_get (pc := 219) hX (ci := 7) (fun _ h => List.mem_cons_of_mem _ (List.mem_append_right _ h)) rfl 92 (by omega) (up_ne (by decide) (up_ne (by decide) (up_ne (by decide) (up_ne (by decide) (up_ne (by decide) m153_92))))) 0 (by decide) (List.mem_of_getElem? (i := 6) rfl) rfl (v := .ref (gw_ad w 93)) rfl dX7_dispute_219 ?_
                refine g_iload (pc := 222) hX 0 rfl dX7_dispute_222 ?_
                refine g_bipush (pc := 224) hX (by decide) dX7_dispute_224 ?_
                refine g_callT1 (pc := 226) (As := [vI (V 20), vI (8)]) (st2 := [.ref (gw_ad w 93)]) hX (c_X7_noteAt (z := V 20) (k := 8)) gX7_dispute_X7_noteAt (n := 2) (hw := rfl) (hrc := rfl) (hrs := rfl) (hd := by decide +kernel) (hR := ⟨Nat.le_of_ble_eq_true rfl, Nat.le_of_ble_eq_true rfl⟩) (hn := rfl) (hst := rfl) (hsum := Nat.le_of_ble_eq_true rfl) (hdg := dX7_dispute_226) ?_
                rintro _ S9 ⟨rfl, e9⟩
                rw [e9]
                clear e9 S9
                refine g_at (pc2 := 229) rfl rfl (st2 := [vI (940 + 12 * (V 20) + 8), .ref (gw_ad w 93)]) rfl (S2 := (va_up (va_up (va_up (va_up (va_up S153 93 (AJ w 1200 (updZ (V1) (940 + 12 * (V 20) + 3) (WK153 8)))) 93 (AJ w 1200 (updZ (updZ (V1) (940 + 12 * (V 20) + 3) (WK153 8)) (940 + 12 * (V 20) + 4) (0)))) 93 (AJ w 1200 (updZ (updZ (updZ (V1) (940 + 12 * (V 20) + 3) (WK153 8)) (940 + 12 * (V 20) + 4) (0)) (940 + 12 * (V 20) + 5) (0)))) 93 (AJ w 1200 (updZ (updZ (updZ (updZ (V1) (940 + 12 * (V 20) + 3) (WK153 8)) (940 + 12 * (V 20) + 4) (0)) (940 + 12 * (V 20) + 5) (0)) (940 + 12 * (V 20) + 6) (WK153 5)))) 93 (AJ w 1200 (updZ (updZ (updZ (updZ (updZ (V1) (940 + 12 * (V 20) + 3) (WK153 8)) (940 + 12 * (V 20) + 4) (0)) (940 + 12 * (V 20) + 5) (0)) (940 + 12 * (V 20) + 6) (WK153 5)) (940 + 12 * (V 20) + 7) (WK153 6))))) rfl ?_
                refine g_aload_n (pc := 229) hX 1 rfl dX7_dispute_229 ?_
                refine g_get (pc := 230) hX (ci := 7) (fun _ h => List.mem_cons_of_mem _ (List.mem_append_right _ h)) rfl 92 (by omega) (up_ne (by decide) (up_ne (by decide) (up_ne (by decide) (up_ne (by decide) (up_ne (by decide) m153_92))))) 16 (by decide) (List.mem_of_getElem? (i := 9) rfl) rfl (v := .ref (gw_ad w 102)) rfl dX7_dispute_230 ?_
                refine g_bipush (pc := 233) hX (by decide) dX7_dispute_233 ?_
                refine g_lald (pc := 235) hX 102 (by omega) (up_ne (by decide) (up_ne (by decide) (up_ne (by decide) (up_ne (by decide) (up_ne (by decide) m153_102))))) (by omega) (by omega) (by decide) dX7_dispute_235 ?_
                refine g_last (pc := 236) hX 93 (by omega) (up_eq _ _ _) (by omega) (by omega) (by decide) dX7_dispute_236 ?_
                refine g_at rfl rfl rfl (S2 := (va_up (va_up (va_up (va_up (va_up (va_up S153 93 (AJ w 1200 (updZ (V1) (940 + 12 * (V 20) + 3) (WK153 8)))) 93 (AJ w 1200 (updZ (updZ (V1) (940 + 12 * (V 20) + 3) (WK153 8)) (940 + 12 * (V 20) + 4) (0)))) 93 (AJ w 1200 (updZ (updZ (updZ (V1) (940 + 12 * (V 20) + 3) (WK153 8)) (940 + 12 * (V 20) + 4) (0)) (940 + 12 * (V 20) + 5) (0)))) 93 (AJ w 1200 (updZ (updZ (updZ (updZ (V1) (940 + 12 * (V 20) + 3) (WK153 8)) (940 + 12 * (V 20) + 4) (0)) (940 + 12 * (V 20) + 5) (0)) (940 + 12 * (V 20) + 6) (WK153 5)))) 93 (AJ w 1200 (updZ (updZ (updZ (updZ (updZ (V1) (940 + 12 * (V 20) + 3) (WK153 8)) (940 + 12 * (V 20) + 4) (0)) (940 + 12 * (V 20) + 5) (0)) (940 + 12 * (V 20) + 6) (WK153 5)) (940 + 12 * (V 20) + 7) (WK153 6)))) 93 (AJ w 1200 (updZ (updZ (updZ (updZ (updZ (updZ (V1) (940 + 12 * (V 20) + 3) (WK153 8)) (940 + 12 * (V 20) + 4) (0)) (940 + 12 * (V 20) + 5) (0)) (940 + 12 * (V 20) + 6) (WK153 5)) (940 + 12 * (V 20) + 7) (WK153 6)) (940 + 12 * (V 20) + 8) (WK153 7))))) rfl ?_
                obtain ⟨V3, eV3⟩ : ∃ f : Int → Int, f = updZ (updZ (updZ (updZ (updZ (updZ (V1) (940 + 12 * (V 20) + 3) (WK153 8)) (940 + 12 * (V 20) + 4) (0)) (940 + 12 * (V 20) + 5) (0)) (940 + 12 * (V 20) + 6) (WK153 5)) (940 + 12 * (V 20) + 7) (WK153 6)) (940 + 12 * (V 20) + 8) (WK153 7) := ⟨_, rfl⟩
                refine g_at rfl rfl rfl (S2 := (va_up (va_up (va_up (va_up (va_up (va_up S153 93 (AJ w 1200 (updZ (V1) (940 + 12 * (V 20) + 3) (WK153 8)))) 93 (AJ w 1200 (updZ (updZ (V1) (940 + 12 * (V 20) + 3) (WK153 8)) (940 + 12 * (V 20) + 4) (0)))) 93 (AJ w 1200 (updZ (updZ (updZ (V1) (940 + 12 * (V 20) + 3) (WK153 8)) (940 + 12 * (V 20) + 4) (0)) (940 + 12 * (V 20) + 5) (0)))) 93 (AJ w 1200 (updZ (updZ (updZ (updZ (V1) (940 + 12 * (V 20) + 3) (WK153 8)) (940 + 12 * (V 20) + 4) (0)) (940 + 12 * (V 20) + 5) (0)) (940 + 12 * (V 20) + 6) (WK153 5)))) 93 (AJ w 1200 (updZ (updZ (updZ (updZ (updZ (V1) (940 + 12 * (V 20) + 3) (WK153 8)) (940 + 12 * (V 20) + 4) (0)) (940 + 12 * (V 20) + 5) (0)) (940 + 12 * (V 20) + 6) (WK153 5)) (940 + 12 * (V 20) + 7) (WK153 6)))) 93 (AJ w 1200 (V3)))) (by rw [eV3]) ?_
                have hV3 : V3 = actW V (ntF p x y WK153) (940 + 12 * V 20) 9 := by rw [eV3, eV1]; exact ntF_r
                refine g_iconst (pc := 237) hX dX7_dispute_237 ?_
                refine g_istore (pc := 238) hX (lv2 := [(5, vI (0)), (4, vI (V 20)), (0, .ref (gw_ad w 92)), (1, vI (p)), (2, vI (x)), (3, vI (y))]) (by decide) rfl dX7_dispute_238 ?_
                have lk : ∀ (n0 : Nat) (k : Int), 0 ≤ k → k ≤ 3 → 3 - k < n0 → G w { frames := 5, cells := 0, slots := 0, locals := 118 } X 6 240 [(5, vI (k)), (0, .ref (gw_ad w 92)), (4, vI (V 20))] [] (va_up (va_up (va_up (va_up (va_up (va_up (va_up S153 93 (AJ w 1200 (updZ (V1) (940 + 12 * (V 20) + 3) (WK153 8)))) 93 (AJ w 1200 (updZ (updZ (V1) (940 + 12 * (V 20) + 3) (WK153 8)) (940 + 12 * (V 20) + 4) (0)))) 93 (AJ w 1200 (updZ (updZ (updZ (V1) (940 + 12 * (V 20) + 3) (WK153 8)) (940 + 12 * (V 20) + 4) (0)) (940 + 12 * (V 20) + 5) (0)))) 93 (AJ w 1200 (updZ (updZ (updZ (updZ (V1) (940 + 12 * (V 20) + 3) (WK153 8)) (940 + 12 * (V 20) + 4) (0)) (940 + 12 * (V 20) + 5) (0)) (940 + 12 * (V 20) + 6) (WK153 5)))) 93 (AJ w 1200 (updZ (updZ (updZ (updZ (updZ (V1) (940 + 12 * (V 20) + 3) (WK153 8)) (940 + 12 * (V 20) + 4) (0)) (940 + 12 * (V 20) + 5) (0)) (940 + 12 * (V 20) + 6) (WK153 5)) (940 + 12 * (V 20) + 7) (WK153 6)))) 93 (AJ w 1200 (V3))) 93 (AJ w 1200 (actW V (ntF p x y WK153) (940 + 12 * V 20) (9 + k)))) := by
                  intro n0
                  induction n0 with
                  | zero => intro k  h1k h2k h3k; exact absurd h3k (by omega)
                  | succ n0 ihlk =>
                    intro k  h1k h2k h3k 
                    have hk : inI k := inI_mk (by omega) (by omega)
                    refine g_iload (pc := 240) hX 0 rfl dX7_dispute_240 ?_
                    refine g_iconst (pc := 242) hX dX7_dispute_242 ?_
                    refine g_icmp_ge (pc := 243) (tgt := 277) hX (by first | assumption | exact inI_mk (by omega) (by omega)) (by first | assumption | exact inI_mk (by omega) (by omega)) dX7_dispute_243 (by decide) (fun c_243 => ?_) (fun c_243 => ?_)
                    · skip
                      refine g_aload_n (pc := 277) hX 1 rfl dX7_dispute_277 ?_
                      refine g_get (pc := 278) hX (ci := 7) (fun _ h => List.mem_cons_of_mem _ (List.mem_append_right _ h)) rfl 92 (by omega) (up_ne (by decide) (up_ne (by decide) (up_ne (by decide) (up_ne (by decide) (up_ne (by decide) (up_ne (by decide) (up_ne (by decide) m153_92))))))) 0 (by decide) (List.mem_of_getElem? (i := 6) rfl) rfl (v := .ref (gw_ad w 93)) rfl dX7_dispute_278 ?_
                      refine g_bipush (pc := 281) hX (by decide) dX7_dispute_281 ?_
                      refine g_dup2 (pc := 283) hX rfl rfl dX7_dispute_283 ?_
                      refine g_lald (pc := 284) hX 93 (by omega) (up_eq _ _ _) (by omega) (by omega) (by decide) dX7_dispute_284 ?_
                      refine g_at rfl rfl (st2 := [vL (V 20), vI (20), .ref (gw_ad w 93)]) (by rw [show (actW V (ntF p x y WK153) (940 + 12 * V 20) (9 + k)) 20 = V 20 from by unfold actW; rw [if_neg (by omega)]]) rfl ?_
                      refine g_lconst (pc := 285) hX (z := 1) rfl dX7_dispute_285 ?_
                      refine g_ladd (pc := 286) hX dX7_dispute_286 ?_
                      refine g_last (pc := 287) hX 93 (by omega) (up_eq _ _ _) (by omega) (by omega) (by decide) dX7_dispute_287 ?_
                      refine g_at rfl rfl rfl (S2 := (va_up (va_up (va_up (va_up (va_up (va_up (va_up (va_up S153 93 (AJ w 1200 (updZ (V1) (940 + 12 * (V 20) + 3) (WK153 8)))) 93 (AJ w 1200 (updZ (updZ (V1) (940 + 12 * (V 20) + 3) (WK153 8)) (940 + 12 * (V 20) + 4) (0)))) 93 (AJ w 1200 (updZ (updZ (updZ (V1) (940 + 12 * (V 20) + 3) (WK153 8)) (940 + 12 * (V 20) + 4) (0)) (940 + 12 * (V 20) + 5) (0)))) 93 (AJ w 1200 (updZ (updZ (updZ (updZ (V1) (940 + 12 * (V 20) + 3) (WK153 8)) (940 + 12 * (V 20) + 4) (0)) (940 + 12 * (V 20) + 5) (0)) (940 + 12 * (V 20) + 6) (WK153 5)))) 93 (AJ w 1200 (updZ (updZ (updZ (updZ (updZ (V1) (940 + 12 * (V 20) + 3) (WK153 8)) (940 + 12 * (V 20) + 4) (0)) (940 + 12 * (V 20) + 5) (0)) (940 + 12 * (V 20) + 6) (WK153 5)) (940 + 12 * (V 20) + 7) (WK153 6)))) 93 (AJ w 1200 (V3))) 93 (AJ w 1200 (actW V (ntF p x y WK153) (940 + 12 * V 20) (9 + k)))) 93 (AJ w 1200 (updZ (actW V (ntF p x y WK153) (940 + 12 * V 20) (9 + k)) (20) ((V 20) + 1))))) rfl ?_
                      refine g_iload (pc := 288) hX 2 rfl dX7_dispute_288 ?_
                      refine g_iret (pc := 290) hX hR dX7_dispute_290 ?_
                      try simp only [decide_eq_true_eq, decide_eq_false_iff_not] at c_243
                      have hk3 : k = 3 := by omega
                      subst hk3
                      refine (if_pos (by rw [if_neg (by omega)]; omega)).mpr ((if_pos (by omega)).mpr ((if_neg (by omega)).mpr (⟨xm86, at86, wm86, wh86, ir86, TX86, WT86, MK86, MM86, CH86, AM86, WK153, FL153, PI153, ?_, hT86, hW86, hfl153, hpi153, hRd86, rfl⟩)))
                      have hW2 : ∀ i, 0 ≤ i → i < 12 → ntF p x y WK153 i = ntF p x y (wiW V MK86 MM86 CH86 AM86 p x y) i := fun i h0 h1 => by
                        have hw : ∀ j, 0 ≤ j → j ≤ 11 → WK153 j = wiW V MK86 MM86 CH86 AM86 p x y j := fun j a b => by rw [hwk153 j a b, ewi]
                        unfold ntF
                        rw [hw 8 (by decide) (by decide), hw 5 (by decide) (by decide), hw 6 (by decide) (by decide), hw 7 (by decide) (by decide), hw i h0 (by omega)]
                      unfold diV
                      rw [← actW_c hW2]
                      exact ⟨⟨⟨(up_ne (by decide) (up_ne (by decide) (up_ne (by decide) (up_ne (by decide) (up_ne (by decide) (up_ne (by decide) (up_ne (by decide) (up_ne (by decide) m153_92)))))))), (up_eq _ _ _), (up_ne (by decide) (up_ne (by decide) (up_ne (by decide) (up_ne (by decide) (up_ne (by decide) (up_ne (by decide) (up_ne (by decide) (up_ne (by decide) m153_94))))))))⟩, ⟨(up_ne (by decide) (up_ne (by decide) (up_ne (by decide) (up_ne (by decide) (up_ne (by decide) (up_ne (by decide) (up_ne (by decide) (up_ne (by decide) m153_95)))))))), (up_ne (by decide) (up_ne (by decide) (up_ne (by decide) (up_ne (by decide) (up_ne (by decide) (up_ne (by decide) (up_ne (by decide) (up_ne (by decide) m153_96))))))))⟩, ⟨(up_ne (by decide) (up_ne (by decide) (up_ne (by decide) (up_ne (by decide) (up_ne (by decide) (up_ne (by decide) (up_ne (by decide) (up_ne (by decide) m153_97)))))))), (up_ne (by decide) (up_ne (by decide) (up_ne (by decide) (up_ne (by decide) (up_ne (by decide) (up_ne (by decide) (up_ne (by decide) (up_ne (by decide) m153_98)))))))), (up_ne (by decide) (up_ne (by decide) (up_ne (by decide) (up_ne (by decide) (up_ne (by decide) (up_ne (by decide) (up_ne (by decide) (up_ne (by decide) m153_99)))))))), (up_ne (by decide) (up_ne (by decide) (up_ne (by decide) (up_ne (by decide) (up_ne (by decide) (up_ne (by decide) (up_ne (by decide) (up_ne (by decide) m153_100)))))))), (up_ne (by decide) (up_ne (by decide) (up_ne (by decide) (up_ne (by decide) (up_ne (by decide) (up_ne (by decide) (up_ne (by decide) (up_ne (by decide) m153_101))))))))⟩, ⟨(up_ne (by decide) (up_ne (by decide) (up_ne (by decide) (up_ne (by decide) (up_ne (by decide) (up_ne (by decide) (up_ne (by decide) (up_ne (by decide) m153_102)))))))), (up_ne (by decide) (up_ne (by decide) (up_ne (by decide) (up_ne (by decide) (up_ne (by decide) (up_ne (by decide) (up_ne (by decide) (up_ne (by decide) m153_103)))))))), (up_ne (by decide) (up_ne (by decide) (up_ne (by decide) (up_ne (by decide) (up_ne (by decide) (up_ne (by decide) (up_ne (by decide) (up_ne (by decide) m153_104))))))))⟩⟩, fun q hq => (up_ne (by omega) (up_ne (by omega) (up_ne (by omega) (up_ne (by omega) (up_ne (by omega) (up_ne (by omega) (up_ne (by omega) (up_ne (by omega) ((hP153.2 q hq).trans (up_ne (by omega) (up_ne (by omega) (up_ne (by omega) ((hP86.2 q hq).trans ((hP82.2 q hq).trans rfl))))))))))))))⟩
                    · skip
                      refine g_aload_n (pc := 246) hX 1 rfl dX7_dispute_246 ?_
                      refine g_get (pc := 247) hX (ci := 7) (fun _ h => List.mem_cons_of_mem _ (List.mem_append_right _ h)) rfl 92 (by omega) (up_ne (by decide) (up_ne (by decide) (up_ne (by decide) (up_ne (by decide) (up_ne (by decide) (up_ne (by decide) (up_ne (by decide) m153_92))))))) 0 (by decide) (List.mem_of_getElem? (i := 6) rfl) rfl (v := .ref (gw_ad w 93)) rfl dX7_dispute_247 ?_
                      refine g_iload (pc := 250) hX 2 rfl dX7_dispute_250 ?_
                      refine g_bipush (pc := 252) hX (by decide) dX7_dispute_252 ?_
                      refine g_iload (pc := 254) hX 0 rfl dX7_dispute_254 ?_
                      refine g_iadd (pc := 256) hX dX7_dispute_256 ?_
                      refine g_callT1 (pc := 257) (As := [vI (V 20), vI (9 + k)]) (st2 := [.ref (gw_ad w 93)]) hX (c_X7_noteAt (z := V 20) (k := 9 + k)) gX7_dispute_X7_noteAt (n := 2) (hw := rfl) (hrc := rfl) (hrs := rfl) (hd := by decide +kernel) (hR := ⟨Nat.le_of_ble_eq_true rfl, Nat.le_of_ble_eq_true rfl⟩) (hn := rfl) (hst := rfl) (hsum := Nat.le_of_ble_eq_true rfl) (hdg := dX7_dispute_257) ?_
                      rintro _ S9 ⟨rfl, e9⟩
                      rw [e9]
                      clear e9 S9
                      refine g_at (pc2 := 260) rfl rfl (st2 := [vI (940 + 12 * (V 20) + (9 + k)), .ref (gw_ad w 93)]) rfl (S2 := (va_up (va_up (va_up (va_up (va_up (va_up (va_up S153 93 (AJ w 1200 (updZ (V1) (940 + 12 * (V 20) + 3) (WK153 8)))) 93 (AJ w 1200 (updZ (updZ (V1) (940 + 12 * (V 20) + 3) (WK153 8)) (940 + 12 * (V 20) + 4) (0)))) 93 (AJ w 1200 (updZ (updZ (updZ (V1) (940 + 12 * (V 20) + 3) (WK153 8)) (940 + 12 * (V 20) + 4) (0)) (940 + 12 * (V 20) + 5) (0)))) 93 (AJ w 1200 (updZ (updZ (updZ (updZ (V1) (940 + 12 * (V 20) + 3) (WK153 8)) (940 + 12 * (V 20) + 4) (0)) (940 + 12 * (V 20) + 5) (0)) (940 + 12 * (V 20) + 6) (WK153 5)))) 93 (AJ w 1200 (updZ (updZ (updZ (updZ (updZ (V1) (940 + 12 * (V 20) + 3) (WK153 8)) (940 + 12 * (V 20) + 4) (0)) (940 + 12 * (V 20) + 5) (0)) (940 + 12 * (V 20) + 6) (WK153 5)) (940 + 12 * (V 20) + 7) (WK153 6)))) 93 (AJ w 1200 (V3))) 93 (AJ w 1200 (actW V (ntF p x y WK153) (940 + 12 * V 20) (9 + k))))) rfl ?_
                      refine g_aload_n (pc := 260) hX 1 rfl dX7_dispute_260 ?_
                      refine g_get (pc := 261) hX (ci := 7) (fun _ h => List.mem_cons_of_mem _ (List.mem_append_right _ h)) rfl 92 (by omega) (up_ne (by decide) (up_ne (by decide) (up_ne (by decide) (up_ne (by decide) (up_ne (by decide) (up_ne (by decide) (up_ne (by decide) m153_92))))))) 16 (by decide) (List.mem_of_getElem? (i := 9) rfl) rfl (v := .ref (gw_ad w 102)) rfl dX7_dispute_261 ?_
                      refine g_bipush (pc := 264) hX (by decide) dX7_dispute_264 ?_
                      refine g_iload (pc := 266) hX 0 rfl dX7_dispute_266 ?_
                      refine g_iadd (pc := 268) hX dX7_dispute_268 ?_
                      refine g_lald (pc := 269) hX 102 (by omega) (up_ne (by decide) (up_ne (by decide) (up_ne (by decide) (up_ne (by decide) (up_ne (by decide) (up_ne (by decide) (up_ne (by decide) m153_102))))))) (by omega) (by omega) (by decide) dX7_dispute_269 ?_
                      refine g_last (pc := 270) hX 93 (by omega) (up_eq _ _ _) (by omega) (by omega) (by decide) dX7_dispute_270 ?_
                      refine g_at rfl rfl rfl (S2 := (va_up (va_up (va_up (va_up (va_up (va_up (va_up (va_up S153 93 (AJ w 1200 (updZ (V1) (940 + 12 * (V 20) + 3) (WK153 8)))) 93 (AJ w 1200 (updZ (updZ (V1) (940 + 12 * (V 20) + 3) (WK153 8)) (940 + 12 * (V 20) + 4) (0)))) 93 (AJ w 1200 (updZ (updZ (updZ (V1) (940 + 12 * (V 20) + 3) (WK153 8)) (940 + 12 * (V 20) + 4) (0)) (940 + 12 * (V 20) + 5) (0)))) 93 (AJ w 1200 (updZ (updZ (updZ (updZ (V1) (940 + 12 * (V 20) + 3) (WK153 8)) (940 + 12 * (V 20) + 4) (0)) (940 + 12 * (V 20) + 5) (0)) (940 + 12 * (V 20) + 6) (WK153 5)))) 93 (AJ w 1200 (updZ (updZ (updZ (updZ (updZ (V1) (940 + 12 * (V 20) + 3) (WK153 8)) (940 + 12 * (V 20) + 4) (0)) (940 + 12 * (V 20) + 5) (0)) (940 + 12 * (V 20) + 6) (WK153 5)) (940 + 12 * (V 20) + 7) (WK153 6)))) 93 (AJ w 1200 (V3))) 93 (AJ w 1200 (actW V (ntF p x y WK153) (940 + 12 * V 20) (9 + k)))) 93 (AJ w 1200 (updZ (actW V (ntF p x y WK153) (940 + 12 * V 20) (9 + k)) (940 + 12 * (V 20) + (9 + k)) (WK153 (9 + k)))))) rfl ?_
                      refine g_iinc (pc := 271) hX (lv2 := [(5, vI (k + 1)), (0, .ref (gw_ad w 92)), (4, vI (V 20))]) 0 rfl (by decide) rfl dX7_dispute_271 ?_
                      refine g_goto (pc := 274) (tgt := 240) hX dX7_dispute_274 (by decide) ?_
                      refine g_sub (lv2 := [(5, vI (k + 1)), (0, .ref (gw_ad w 92)), (4, vI (V 20))]) [0, 1, 2] rfl ?_
                      refine g_at rfl (lv2 := [(5, vI (k + 1)), (0, .ref (gw_ad w 92)), (4, vI (V 20))]) (rfl) rfl (S2 := (va_up (va_up (va_up (va_up (va_up (va_up (va_up S153 93 (AJ w 1200 (updZ (V1) (940 + 12 * (V 20) + 3) (WK153 8)))) 93 (AJ w 1200 (updZ (updZ (V1) (940 + 12 * (V 20) + 3) (WK153 8)) (940 + 12 * (V 20) + 4) (0)))) 93 (AJ w 1200 (updZ (updZ (updZ (V1) (940 + 12 * (V 20) + 3) (WK153 8)) (940 + 12 * (V 20) + 4) (0)) (940 + 12 * (V 20) + 5) (0)))) 93 (AJ w 1200 (updZ (updZ (updZ (updZ (V1) (940 + 12 * (V 20) + 3) (WK153 8)) (940 + 12 * (V 20) + 4) (0)) (940 + 12 * (V 20) + 5) (0)) (940 + 12 * (V 20) + 6) (WK153 5)))) 93 (AJ w 1200 (updZ (updZ (updZ (updZ (updZ (V1) (940 + 12 * (V 20) + 3) (WK153 8)) (940 + 12 * (V 20) + 4) (0)) (940 + 12 * (V 20) + 5) (0)) (940 + 12 * (V 20) + 6) (WK153 5)) (940 + 12 * (V 20) + 7) (WK153 6)))) 93 (AJ w 1200 (V3))) 93 (AJ w 1200 (actW V (ntF p x y WK153) (940 + 12 * V 20) (9 + (k + 1)))))) (by rw [up_up, ntF_s h1k]) ?_
                      exact ihlk (k + 1)  (by omega) (by omega) (by omega) 
                refine g_sub (lv2 := [(5, vI (0)), (0, .ref (gw_ad w 92)), (4, vI (V 20))]) [0, 2, 1] rfl ?_
                refine g_at rfl (lv2 := [(5, vI (0)), (0, .ref (gw_ad w 92)), (4, vI (V 20))]) (rfl) rfl (S2 := (va_up (va_up (va_up (va_up (va_up (va_up (va_up S153 93 (AJ w 1200 (updZ (V1) (940 + 12 * (V 20) + 3) (WK153 8)))) 93 (AJ w 1200 (updZ (updZ (V1) (940 + 12 * (V 20) + 3) (WK153 8)) (940 + 12 * (V 20) + 4) (0)))) 93 (AJ w 1200 (updZ (updZ (updZ (V1) (940 + 12 * (V 20) + 3) (WK153 8)) (940 + 12 * (V 20) + 4) (0)) (940 + 12 * (V 20) + 5) (0)))) 93 (AJ w 1200 (updZ (updZ (updZ (updZ (V1) (940 + 12 * (V 20) + 3) (WK153 8)) (940 + 12 * (V 20) + 4) (0)) (940 + 12 * (V 20) + 5) (0)) (940 + 12 * (V 20) + 6) (WK153 5)))) 93 (AJ w 1200 (updZ (updZ (updZ (updZ (updZ (V1) (940 + 12 * (V 20) + 3) (WK153 8)) (940 + 12 * (V 20) + 4) (0)) (940 + 12 * (V 20) + 5) (0)) (940 + 12 * (V 20) + 6) (WK153 5)) (940 + 12 * (V 20) + 7) (WK153 6)))) 93 (AJ w 1200 (V3))) 93 (AJ w 1200 (actW V (ntF p x y WK153) (940 + 12 * V 20) (9 + 0))))) (by rw [show actW V (ntF p x y WK153) (940 + 12 * V 20) (9 + 0) = V3 from hV3.symm, up_self (f := (va_up (va_up (va_up (va_up (va_up (va_up S153 93 (AJ w 1200 (updZ (V1) (940 + 12 * (V 20) + 3) (WK153 8)))) 93 (AJ w 1200 (updZ (updZ (V1) (940 + 12 * (V 20) + 3) (WK153 8)) (940 + 12 * (V 20) + 4) (0)))) 93 (AJ w 1200 (updZ (updZ (updZ (V1) (940 + 12 * (V 20) + 3) (WK153 8)) (940 + 12 * (V 20) + 4) (0)) (940 + 12 * (V 20) + 5) (0)))) 93 (AJ w 1200 (updZ (updZ (updZ (updZ (V1) (940 + 12 * (V 20) + 3) (WK153 8)) (940 + 12 * (V 20) + 4) (0)) (940 + 12 * (V 20) + 5) (0)) (940 + 12 * (V 20) + 6) (WK153 5)))) 93 (AJ w 1200 (updZ (updZ (updZ (updZ (updZ (V1) (940 + 12 * (V 20) + 3) (WK153 8)) (940 + 12 * (V 20) + 4) (0)) (940 + 12 * (V 20) + 5) (0)) (940 + 12 * (V 20) + 6) (WK153 5)) (940 + 12 * (V 20) + 7) (WK153 6)))) 93 (AJ w 1200 (V3)))) (up_eq _ _ _)]) ?_
                exact lk ((3 : Int) - 0 + 1).toNat 0  (by omega) (by omega) (by omega) 
              · skip
                refine g_ldc (pc := 78) hX (z := -1000003) (List.mem_of_getElem? (i := 8) rfl) (by decide +kernel) dX7_dispute_78 ?_
                refine g_iret (pc := 80) hX hR dX7_dispute_80 ?_
                try simp only [decide_eq_true_eq, decide_eq_false_iff_not] at c_5 c_17 c_24 c_39 c_50 c_58 c_74
                exact (if_pos (by rw [if_neg (by omega)]; omega)).mpr ((if_pos (by omega)).mpr ((if_pos (by omega)).mpr (⟨rfl, rfl⟩)))
            · skip
              refine g_ldc (pc := 61) hX (z := -1000002) (List.mem_of_getElem? (i := 5) rfl) (by decide +kernel) dX7_dispute_61 ?_
              refine g_iret (pc := 63) hX hR dX7_dispute_63 ?_
              try simp only [decide_eq_true_eq, decide_eq_false_iff_not] at c_5 c_17 c_24 c_39 c_50 c_58
              exact (if_pos (by rw [if_neg (by omega)]; omega)).mpr ((if_neg (by omega)).mpr (⟨rfl, rfl⟩))
        · skip
          refine g_ldc (pc := 42) hX (z := -1000001) (List.mem_of_getElem? (i := 4) rfl) (by decide +kernel) dX7_dispute_42 ?_
          refine g_iret (pc := 44) hX hR dX7_dispute_44 ?_
          try simp only [decide_eq_true_eq, decide_eq_false_iff_not] at c_5 c_17 c_24 c_39
          exact (if_neg (by rw [if_neg (by omega)]; omega)).mpr (⟨rfl, rfl⟩)
      · skip
        refine g_ldc2 (pc := 27) hX (z := 100000) (List.mem_of_getElem? (i := 2) rfl) (by decide +kernel) dX7_dispute_27 ?_
        refine g_goto (pc := 30) (tgt := 36) hX dX7_dispute_30 (by decide) ?_
        refine g_callT1 (pc := 36) (As := [vL (y), vL (1), vL (100000)]) (st2 := []) hX (c_X7_in (x := y) (a := 1) (b := 100000) (by first | assumption | exact inI_L (by assumption) | exact inL_mk (by omega) (by omega)) (by first | assumption | exact inI_L (by assumption) | exact inL_mk (by omega) (by omega)) (by first | assumption | exact inI_L (by assumption) | exact inL_mk (by omega) (by omega))) gX7_dispute_X7_in (n := 3) (hw := rfl) (hrc := rfl) (hrs := rfl) (hd := by decide +kernel) (hR := ⟨Nat.le_of_ble_eq_true rfl, Nat.le_of_ble_eq_true rfl⟩) (hn := rfl) (hst := rfl) (hsum := Nat.le_of_ble_eq_true rfl) (hdg := dX7_dispute_36) ?_
        rintro _ S9 ⟨rfl, e9⟩
        rw [e9]
        clear e9 S9
        refine g_at (pc2 := 39) rfl rfl (st2 := [vI (bz (decide (1 ≤ y ∧ y ≤ 100000)))]) rfl (S2 := S) rfl ?_
        refine g_bif_ne (pc := 39) (tgt := 45) hX dX7_dispute_39 (by decide) (fun c_39 => ?_) (fun c_39 => ?_)
        · skip
          have hy1 := of_decide_eq_true c_39
          refine g_aload_n (pc := 45) hX 0 rfl dX7_dispute_45 ?_
          refine g_iload_n (pc := 46) hX 1 rfl dX7_dispute_46 ?_
          refine g_callV1 (pc := 47) (ci := 7) (As := [vI (p)]) (st2 := []) hX 92 (by omega) m92 rfl (c_X7_openOf hN hm hL h20 (p := p) (by first | assumption | exact inI_mk (by omega) (by omega))) gX7_dispute_X7_openOf (n := 1) (hw := rfl) (hrc := rfl) (hrs := rfl) (hd := by decide +kernel) (hR := ⟨Nat.le_of_ble_eq_true rfl, Nat.le_of_ble_eq_true rfl⟩) (hn := rfl) (hst := rfl) (hsum := Nat.le_of_ble_eq_true rfl) (hdg := dX7_dispute_47) ?_
          rintro _ S9 ⟨rfl, e9⟩
          rw [e9]
          clear e9 S9
          refine g_at (pc2 := 50) rfl rfl (st2 := [vI (mopZ V p)]) rfl (S2 := S) rfl ?_
          refine g_if_ge (pc := 50) (tgt := 61) hX (mopZ_in h20 p) dX7_dispute_50 (by decide) (fun c_50 => ?_) (fun c_50 => ?_)
          · skip
            refine g_ldc (pc := 61) hX (z := -1000002) (List.mem_of_getElem? (i := 5) rfl) (by decide +kernel) dX7_dispute_61 ?_
            refine g_iret (pc := 63) hX hR dX7_dispute_63 ?_
            try simp only [decide_eq_true_eq, decide_eq_false_iff_not] at c_5 c_17 c_24 c_39 c_50
            exact (if_pos (by rw [if_pos (by omega)]; omega)).mpr ((if_neg (by omega)).mpr (⟨rfl, rfl⟩))
          · skip
            refine g_aload_n (pc := 53) hX 0 rfl dX7_dispute_53 ?_
            refine g_iload_n (pc := 54) hX 1 rfl dX7_dispute_54 ?_
            refine g_callV1 (pc := 55) (ci := 7) (As := [vI (p)]) (st2 := []) hX 92 (by omega) m92 rfl (c_X7_hasBands hN hm (p := p) (by omega) (hpk p hp1.1 (by omega)).2.2.2.2 hB) gX7_dispute_X7_hasBands (n := 1) (hw := rfl) (hrc := rfl) (hrs := rfl) (hd := by decide +kernel) (hR := ⟨Nat.le_of_ble_eq_true rfl, Nat.le_of_ble_eq_true rfl⟩) (hn := rfl) (hst := rfl) (hsum := Nat.le_of_ble_eq_true rfl) (hdg := dX7_dispute_55) ?_
            rintro _ S9 ⟨rfl, e9⟩
            rw [e9]
            clear e9 S9
            refine g_at (pc2 := 58) rfl rfl (st2 := [vI (bz (decide (0 < V (24 + 14 * V (570 + 12 * p + 4)))))]) rfl (S2 := S) rfl ?_
            refine g_bif_ne (pc := 58) (tgt := 64) hX dX7_dispute_58 (by decide) (fun c_58 => ?_) (fun c_58 => ?_)
            · skip
              have hcb := of_decide_eq_true c_58
              refine g_aload_n (pc := 64) hX 0 rfl dX7_dispute_64 ?_
              refine g_get (pc := 65) hX (ci := 7) (fun _ h => List.mem_cons_of_mem _ (List.mem_append_right _ h)) rfl 92 (by omega) m92 0 (by decide) (List.mem_of_getElem? (i := 6) rfl) rfl (v := .ref (gw_ad w 93)) rfl dX7_dispute_65 ?_
              refine g_bipush (pc := 68) hX (by decide) dX7_dispute_68 ?_
              refine g_lald (pc := 70) hX 93 (by omega) m93 (by omega) (by omega) (by decide) dX7_dispute_70 ?_
              refine g_ldc2 (pc := 71) hX (z := 20) (List.mem_of_getElem? (i := 7) rfl) (by decide +kernel) dX7_dispute_71 ?_
              refine g_lcmp_ne (pc := 74) (tgt := 81) hX (by first | assumption | exact inI_L (by assumption) | exact inL_mk (by omega) (by omega)) (by first | assumption | exact inI_L (by assumption) | exact inL_mk (by omega) (by omega)) dX7_dispute_74 dX7_dispute_75 (by decide) (fun c_74 => ?_) (fun c_74 => ?_)
              · skip
                refine g_aload_n (pc := 81) hX 0 rfl dX7_dispute_81 ?_
                refine g_callV0 (pc := 82) (ci := 7) (As := []) (st2 := []) hX 92 (by omega) m92 rfl (c_X7_act hN hm hpm) gX7_dispute_X7_act (n := 0) (hw := rfl) (hrc := rfl) (hrs := rfl) (hd := by decide +kernel) (hR := ⟨Nat.le_of_ble_eq_true rfl, Nat.le_of_ble_eq_true rfl⟩) (hn := rfl) (hst := rfl) (hsum := Nat.le_of_ble_eq_true rfl) (hdg := dX7_dispute_82) ?_
                rintro S82 hP82
                obtain ⟨⟨m82_92, m82_93, m82_94⟩, ⟨m82_95, m82_96⟩, ⟨m82_97, m82_98, m82_99, m82_100, m82_101⟩, ⟨m82_102, m82_103, m82_104⟩⟩ := hP82.1
                refine g_at (pc2 := 85) rfl rfl (st2 := []) rfl (S2 := S82) rfl ?_
                refine g_aload_n (pc := 85) hX 0 rfl dX7_dispute_85 ?_
                refine g_callV0 (pc := 86) (ci := 7) (As := []) (st2 := []) hX 92 (by omega) m82_92 rfl (c_X7_readsRules hN (show modelAt w (actN pm) tm xm at_ wm wh ir V (actP pm PV V) TY TX MK MM CH AM WT WK FL PI S82 from ⟨⟨m82_92, m82_93, m82_94⟩, ⟨m82_95, m82_96⟩, ⟨m82_97, m82_98, m82_99, m82_100, m82_101⟩, ⟨m82_102, m82_103, m82_104⟩⟩) h18 hTX hWT hrt hVt hz hgd) gX7_dispute_X7_readsRules (n := 0) (hw := rfl) (hrc := rfl) (hrs := rfl) (hd := by decide +kernel) (hR := ⟨Nat.le_of_ble_eq_true rfl, Nat.le_of_ble_eq_true rfl⟩) (hn := rfl) (hst := rfl) (hsum := Nat.le_of_ble_eq_true rfl) (hdg := dX7_dispute_86) ?_
                rintro S86 ⟨xm86, at86, wm86, wh86, ir86, TX86, WT86, MK86, MM86, CH86, AM86, hP86, hT86, hW86, hRd86⟩
                obtain ⟨⟨m86_92, m86_93, m86_94⟩, ⟨m86_95, m86_96⟩, ⟨m86_97, m86_98, m86_99, m86_100, m86_101⟩, ⟨m86_102, m86_103, m86_104⟩⟩ := hP86.1
                have hRK86 := RMK_r hRd86
                refine g_at (pc2 := 89) rfl rfl (st2 := []) rfl (S2 := S86) rfl ?_
                refine g_aload_n (pc := 89) hX 0 rfl dX7_dispute_89 ?_
                refine g_get (pc := 90) hX (ci := 7) (fun _ h => List.mem_cons_of_mem _ (List.mem_append_right _ h)) rfl 92 (by omega) m86_92 0 (by decide) (List.mem_of_getElem? (i := 6) rfl) rfl (v := .ref (gw_ad w 93)) rfl dX7_dispute_90 ?_
                refine g_bipush (pc := 93) hX (by decide) dX7_dispute_93 ?_
                refine g_lald (pc := 95) hX 93 (by omega) m86_93 (by omega) (by omega) (by decide) dX7_dispute_95 ?_
                refine g_l2i (pc := 96) hX dX7_dispute_96 ?_
                refine g_istore (pc := 97) hX (lv2 := [(4, vI (V 20)), (0, .ref (gw_ad w 92)), (1, vI (p)), (2, vI (x)), (3, vI (y))]) (by decide) rfl dX7_dispute_97 ?_
                refine g_aload_n (pc := 99) hX 1 rfl dX7_dispute_99 ?_
                refine g_get (pc := 100) hX (ci := 7) (fun _ h => List.mem_cons_of_mem _ (List.mem_append_right _ h)) rfl 92 (by omega) m86_92 0 (by decide) (List.mem_of_getElem? (i := 6) rfl) rfl (v := .ref (gw_ad w 93)) rfl dX7_dispute_100 ?_
                refine g_iload (pc := 103) hX 0 rfl dX7_dispute_103 ?_
                refine g_iconst (pc := 105) hX dX7_dispute_105 ?_
                refine g_callT1 (pc := 106) (As := [vI (V 20), vI (0)]) (st2 := [.ref (gw_ad w 93)]) hX (c_X7_noteAt (z := V 20) (k := 0)) gX7_dispute_X7_noteAt (n := 2) (hw := rfl) (hrc := rfl) (hrs := rfl) (hd := by decide +kernel) (hR := ⟨Nat.le_of_ble_eq_true rfl, Nat.le_of_ble_eq_true rfl⟩) (hn := rfl) (hst := rfl) (hsum := Nat.le_of_ble_eq_true rfl) (hdg := dX7_dispute_106) ?_
                rintro _ S9 ⟨rfl, e9⟩
                rw [e9]
                clear e9 S9
                refine g_at (pc2 := 109) rfl rfl (st2 := [vI (940 + 12 * (V 20) + 0), .ref (gw_ad w 93)]) rfl (S2 := S86) rfl ?_
                refine g_iload_n (pc := 109) hX 2 rfl dX7_dispute_109 ?_
                refine g_i2l (pc := 110) hX (by first | assumption | exact inI_mk (by omega) (by omega)) dX7_dispute_110 ?_
                refine g_last (pc := 111) hX 93 (by omega) m86_93 (by omega) (by omega) (by decide) dX7_dispute_111 ?_
                refine g_at rfl rfl rfl (S2 := (va_up S86 93 (AJ w 1200 (updZ (V) (940 + 12 * (V 20) + 0) (p))))) rfl ?_
                refine g_aload_n (pc := 112) hX 1 rfl dX7_dispute_112 ?_
                refine g_get (pc := 113) hX (ci := 7) (fun _ h => List.mem_cons_of_mem _ (List.mem_append_right _ h)) rfl 92 (by omega) (up_ne (by decide) m86_92) 0 (by decide) (List.mem_of_getElem? (i := 6) rfl) rfl (v := .ref (gw_ad w 93)) rfl dX7_dispute_113 ?_
                refine g_iload (pc := 116) hX 0 rfl dX7_dispute_116 ?_
                refine g_iconst (pc := 118) hX dX7_dispute_118 ?_
                refine g_callT1 (pc := 119) (As := [vI (V 20), vI (1)]) (st2 := [.ref (gw_ad w 93)]) hX (c_X7_noteAt (z := V 20) (k := 1)) gX7_dispute_X7_noteAt (n := 2) (hw := rfl) (hrc := rfl) (hrs := rfl) (hd := by decide +kernel) (hR := ⟨Nat.le_of_ble_eq_true rfl, Nat.le_of_ble_eq_true rfl⟩) (hn := rfl) (hst := rfl) (hsum := Nat.le_of_ble_eq_true rfl) (hdg := dX7_dispute_119) ?_
                rintro _ S9 ⟨rfl, e9⟩
                rw [e9]
                clear e9 S9
                refine g_at (pc2 := 122) rfl rfl (st2 := [vI (940 + 12 * (V 20) + 1), .ref (gw_ad w 93)]) rfl (S2 := (va_up S86 93 (AJ w 1200 (updZ (V) (940 + 12 * (V 20) + 0) (p))))) rfl ?_
                refine g_iload_n (pc := 122) hX 3 rfl dX7_dispute_122 ?_
                refine g_i2l (pc := 123) hX (by first | assumption | exact inI_mk (by omega) (by omega)) dX7_dispute_123 ?_
                refine g_last (pc := 124) hX 93 (by omega) (up_eq _ _ _) (by omega) (by omega) (by decide) dX7_dispute_124 ?_
                refine g_at rfl rfl rfl (S2 := (va_up (va_up S86 93 (AJ w 1200 (updZ (V) (940 + 12 * (V 20) + 0) (p)))) 93 (AJ w 1200 (updZ (updZ (V) (940 + 12 * (V 20) + 0) (p)) (940 + 12 * (V 20) + 1) (x))))) rfl ?_
                refine g_aload_n (pc := 125) hX 1 rfl dX7_dispute_125 ?_
                refine g_get (pc := 126) hX (ci := 7) (fun _ h => List.mem_cons_of_mem _ (List.mem_append_right _ h)) rfl 92 (by omega) (up_ne (by decide) (up_ne (by decide) m86_92)) 0 (by decide) (List.mem_of_getElem? (i := 6) rfl) rfl (v := .ref (gw_ad w 93)) rfl dX7_dispute_126 ?_
                refine g_iload (pc := 129) hX 0 rfl dX7_dispute_129 ?_
                refine g_iconst (pc := 131) hX dX7_dispute_131 ?_
                refine g_callT1 (pc := 132) (As := [vI (V 20), vI (2)]) (st2 := [.ref (gw_ad w 93)]) hX (c_X7_noteAt (z := V 20) (k := 2)) gX7_dispute_X7_noteAt (n := 2) (hw := rfl) (hrc := rfl) (hrs := rfl) (hd := by decide +kernel) (hR := ⟨Nat.le_of_ble_eq_true rfl, Nat.le_of_ble_eq_true rfl⟩) (hn := rfl) (hst := rfl) (hsum := Nat.le_of_ble_eq_true rfl) (hdg := dX7_dispute_132) ?_
                rintro _ S9 ⟨rfl, e9⟩
                rw [e9]
                clear e9 S9
                refine g_at (pc2 := 135) rfl rfl (st2 := [vI (940 + 12 * (V 20) + 2), .ref (gw_ad w 93)]) rfl (S2 := (va_up (va_up S86 93 (AJ w 1200 (updZ (V) (940 + 12 * (V 20) + 0) (p)))) 93 (AJ w 1200 (updZ (updZ (V) (940 + 12 * (V 20) + 0) (p)) (940 + 12 * (V 20) + 1) (x))))) rfl ?_
                refine g_iload_n (pc := 135) hX 4 rfl dX7_dispute_135 ?_
                refine g_i2l (pc := 136) hX (by first | assumption | exact inI_mk (by omega) (by omega)) dX7_dispute_136 ?_
                refine g_last (pc := 137) hX 93 (by omega) (up_eq _ _ _) (by omega) (by omega) (by decide) dX7_dispute_137 ?_
                refine g_at rfl rfl rfl (S2 := (va_up (va_up (va_up S86 93 (AJ w 1200 (updZ (V) (940 + 12 * (V 20) + 0) (p)))) 93 (AJ w 1200 (updZ (updZ (V) (940 + 12 * (V 20) + 0) (p)) (940 + 12 * (V 20) + 1) (x)))) 93 (AJ w 1200 (updZ (updZ (updZ (V) (940 + 12 * (V 20) + 0) (p)) (940 + 12 * (V 20) + 1) (x)) (940 + 12 * (V 20) + 2) (y))))) rfl ?_
                obtain ⟨V1, eV1⟩ : ∃ f : Int → Int, f = updZ (updZ (updZ (V) (940 + 12 * (V 20) + 0) (p)) (940 + 12 * (V 20) + 1) (x)) (940 + 12 * (V 20) + 2) (y) := ⟨_, rfl⟩
                refine g_at rfl rfl rfl (S2 := (va_up (va_up (va_up S86 93 (AJ w 1200 (updZ (V) (940 + 12 * (V 20) + 0) (p)))) 93 (AJ w 1200 (updZ (updZ (V) (940 + 12 * (V 20) + 0) (p)) (940 + 12 * (V 20) + 1) (x)))) 93 (AJ w 1200 (V1)))) (by rw [eV1]) ?_
                have hlo : lo940 V1 V := fun j hj => by rw [eV1, updZ_ne _ _ (by omega), updZ_ne _ _ (by omega), updZ_ne _ _ (by omega)]
                have hL1 : vLim V1 := by rw [eV1]; exact vLim_up (vLim_up (vLim_up hL ⟨by omega, by omega⟩) ⟨by omega, by omega⟩) ⟨by omega, by omega⟩
                have hkp := hpk p hp1.1 (by omega)
                have hwo : wiOK x y := ⟨fun h => ⟨by omega, by omega⟩, fun h => ⟨by omega, by omega⟩⟩
                have hc1 : 1 ≤ V1 (24 + 14 * V1 (570 + 12 * p + 4)) := by have := hkp.2.2.2.2; rw [hlo (570 + 12 * p + 4) (by omega), hlo _ (by omega)]; omega
                have ewi : wiW V1 MK86 MM86 CH86 AM86 p x y = wiW V MK86 MM86 CH86 AM86 p x y := wiW_c (by omega) hlo hB hkp
                refine g_aload_n (pc := 138) hX 1 rfl dX7_dispute_138 ?_
                refine g_get (pc := 139) hX (ci := 7) (fun _ h => List.mem_cons_of_mem _ (List.mem_append_right _ h)) rfl 92 (by omega) (up_ne (by decide) (up_ne (by decide) (up_ne (by decide) m86_92))) 0 (by decide) (List.mem_of_getElem? (i := 6) rfl) rfl (v := .ref (gw_ad w 93)) rfl dX7_dispute_139 ?_
                refine g_iload (pc := 142) hX 0 rfl dX7_dispute_142 ?_
                refine g_iconst (pc := 144) hX dX7_dispute_144 ?_
                refine g_callT1 (pc := 145) (As := [vI (V 20), vI (3)]) (st2 := [.ref (gw_ad w 93)]) hX (c_X7_noteAt (z := V 20) (k := 3)) gX7_dispute_X7_noteAt (n := 2) (hw := rfl) (hrc := rfl) (hrs := rfl) (hd := by decide +kernel) (hR := ⟨Nat.le_of_ble_eq_true rfl, Nat.le_of_ble_eq_true rfl⟩) (hn := rfl) (hst := rfl) (hsum := Nat.le_of_ble_eq_true rfl) (hdg := dX7_dispute_145) ?_
                rintro _ S9 ⟨rfl, e9⟩
                rw [e9]
                clear e9 S9
                refine g_at (pc2 := 148) rfl rfl (st2 := [vI (940 + 12 * (V 20) + 3), .ref (gw_ad w 93)]) rfl (S2 := (va_up (va_up (va_up S86 93 (AJ w 1200 (updZ (V) (940 + 12 * (V 20) + 0) (p)))) 93 (AJ w 1200 (updZ (updZ (V) (940 + 12 * (V 20) + 0) (p)) (940 + 12 * (V 20) + 1) (x)))) 93 (AJ w 1200 (V1)))) rfl ?_
                refine g_aload_n (pc := 148) hX 1 rfl dX7_dispute_148 ?_
                refine g_iload_n (pc := 149) hX 2 rfl dX7_dispute_149 ?_
                refine g_iload_n (pc := 150) hX 3 rfl dX7_dispute_150 ?_
                refine g_iload_n (pc := 151) hX 4 rfl dX7_dispute_151 ?_
                refine g_i2l (pc := 152) hX (by first | assumption | exact inI_mk (by omega) (by omega)) dX7_dispute_152 ?_
                refine g_callV1 (pc := 153) (ci := 7) (As := [vI (p), vI (x), vL (y)]) (st2 := [vI (940 + 12 * (V 20) + 3), .ref (gw_ad w 93)]) hX 92 (by omega) (up_ne (by decide) (up_ne (by decide) (up_ne (by decide) m86_92))) rfl (c_X7_with hN (show modelAt w (actN pm) tm xm86 at86 wm86 wh86 ir86 V1 (actP pm PV V) TY TX86 MK86 MM86 CH86 AM86 WT86 WK FL PI (va_up (va_up (va_up S86 93 (AJ w 1200 (updZ (V) (940 + 12 * (V 20) + 0) (p)))) 93 (AJ w 1200 (updZ (updZ (V) (940 + 12 * (V 20) + 0) (p)) (940 + 12 * (V 20) + 1) (x)))) 93 (AJ w 1200 (V1))) from ⟨⟨(up_ne (by decide) (up_ne (by decide) (up_ne (by decide) m86_92))), (up_eq _ _ _), (up_ne (by decide) (up_ne (by decide) (up_ne (by decide) m86_94)))⟩, ⟨(up_ne (by decide) (up_ne (by decide) (up_ne (by decide) m86_95))), (up_ne (by decide) (up_ne (by decide) (up_ne (by decide) m86_96)))⟩, ⟨(up_ne (by decide) (up_ne (by decide) (up_ne (by decide) m86_97))), (up_ne (by decide) (up_ne (by decide) (up_ne (by decide) m86_98))), (up_ne (by decide) (up_ne (by decide) (up_ne (by decide) m86_99))), (up_ne (by decide) (up_ne (by decide) (up_ne (by decide) m86_100))), (up_ne (by decide) (up_ne (by decide) (up_ne (by decide) m86_101)))⟩, ⟨(up_ne (by decide) (up_ne (by decide) (up_ne (by decide) m86_102))), (up_ne (by decide) (up_ne (by decide) (up_ne (by decide) m86_103))), (up_ne (by decide) (up_ne (by decide) (up_ne (by decide) m86_104)))⟩⟩) (hlo.bnd hB) hL1 (hlo.ok hv) (hlo.zon hB hZ) (hlo.rmk hRK86) (by rw [hlo 18 (by decide)]; exact h18) hpi0 hfl (p := p) (x := x) (val := y) ⟨by omega, by omega⟩ (by omega) (hlo.pk (by omega) hkp) hwo hc1) gX7_dispute_X7_with (n := 3) (hw := rfl) (hrc := rfl) (hrs := rfl) (hd := by decide +kernel) (hR := ⟨Nat.le_of_ble_eq_true rfl, Nat.le_of_ble_eq_true rfl⟩) (hn := rfl) (hst := rfl) (hsum := Nat.le_of_ble_eq_true rfl) (hdg := dX7_dispute_153) ?_
                rintro _ S153 ⟨rfl, WK153, FL153, PI153, hfl153, hwk153, hpi153, hP153⟩
                obtain ⟨⟨m153_92, m153_93, m153_94⟩, ⟨m153_95, m153_96⟩, ⟨m153_97, m153_98, m153_99, m153_100, m153_101⟩, ⟨m153_102, m153_103, m153_104⟩⟩ := hP153.1
                refine g_at (pc2 := 156) rfl rfl (st2 := [vL (wiW V1 MK86 MM86 CH86 AM86 p x y 8), vI (940 + 12 * (V 20) + 3), .ref (gw_ad w 93)]) rfl (S2 := S153) rfl ?_
                refine g_at rfl rfl (st2 := [vL (WK153 8), vI (940 + 12 * (V 20) + 3), .ref (gw_ad w 93)]) (by rw [show wiW V1 MK86 MM86 CH86 AM86 p x y 8 = WK153 8 from (hwk153 8 (by decide) (by decide)).symm]) rfl ?_
                refine g_last (pc := 156) hX 93 (by omega) m153_93 (by omega) (by omega) (by decide) dX7_dispute_156 ?_
                refine g_at rfl rfl rfl (S2 := (va_up S153 93 (AJ w 1200 (updZ (V1) (940 + 12 * (V 20) + 3) (WK153 8))))) rfl ?_
                refine g_aload_n (pc := 157) hX 1 rfl dX7_dispute_157 ?_
                refine g_get (pc := 158) hX (ci := 7) (fun _ h => List.mem_cons_of_mem _ (List.mem_append_right _ h)) rfl 92 (by omega) (up_ne (by decide) m153_92) 0 (by decide) (List.mem_of_getElem? (i := 6) rfl) rfl (v := .ref (gw_ad w 93)) rfl dX7_dispute_158 ?_
                refine g_iload (pc := 161) hX 0 rfl dX7_dispute_161 ?_
                refine g_iconst (pc := 163) hX dX7_dispute_163 ?_
                refine g_callT1 (pc := 164) (As := [vI (V 20), vI (4)]) (st2 := [.ref (gw_ad w 93)]) hX (c_X7_noteAt (z := V 20) (k := 4)) gX7_dispute_X7_noteAt (n := 2) (hw := rfl) (hrc := rfl) (hrs := rfl) (hd := by decide +kernel) (hR := ⟨Nat.le_of_ble_eq_true rfl, Nat.le_of_ble_eq_true rfl⟩) (hn := rfl) (hst := rfl) (hsum := Nat.le_of_ble_eq_true rfl) (hdg := dX7_dispute_164) ?_
                rintro _ S9 ⟨rfl, e9⟩
                rw [e9]
                clear e9 S9
                refine g_at (pc2 := 167) rfl rfl (st2 := [vI (940 + 12 * (V 20) + 4), .ref (gw_ad w 93)]) rfl (S2 := (va_up S153 93 (AJ w 1200 (updZ (V1) (940 + 12 * (V 20) + 3) (WK153 8))))) rfl ?_
                refine g_lconst (pc := 167) hX (z := 0) rfl dX7_dispute_167 ?_
                refine g_last (pc := 168) hX 93 (by omega) (up_eq _ _ _) (by omega) (by omega) (by decide) dX7_dispute_168 ?_
                refine g_at rfl rfl rfl (S2 := (va_up (va_up S153 93 (AJ w 1200 (updZ (V1) (940 + 12 * (V 20) + 3) (WK153 8)))) 93 (AJ w 1200 (updZ (updZ (V1) (940 + 12 * (V 20) + 3) (WK153 8)) (940 + 12 * (V 20) + 4) (0))))) rfl ?_
                refine g_aload_n (pc := 169) hX 1 rfl dX7_dispute_169 ?_
                refine g_get (pc := 170) hX (ci := 7) (fun _ h => List.mem_cons_of_mem _ (List.mem_append_right _ h)) rfl 92 (by omega) (up_ne (by decide) (up_ne (by decide) m153_92)) 0 (by decide) (List.mem_of_getElem? (i := 6) rfl) rfl (v := .ref (gw_ad w 93)) rfl dX7_dispute_170 ?_
                refine g_iload (pc := 173) hX 0 rfl dX7_dispute_173 ?_
                refine g_iconst (pc := 175) hX dX7_dispute_175 ?_
                refine g_callT1 (pc := 176) (As := [vI (V 20), vI (5)]) (st2 := [.ref (gw_ad w 93)]) hX (c_X7_noteAt (z := V 20) (k := 5)) gX7_dispute_X7_noteAt (n := 2) (hw := rfl) (hrc := rfl) (hrs := rfl) (hd := by decide +kernel) (hR := ⟨Nat.le_of_ble_eq_true rfl, Nat.le_of_ble_eq_true rfl⟩) (hn := rfl) (hst := rfl) (hsum := Nat.le_of_ble_eq_true rfl) (hdg := dX7_dispute_176) ?_
                rintro _ S9 ⟨rfl, e9⟩
                rw [e9]
                clear e9 S9
                refine g_at (pc2 := 179) rfl rfl (st2 := [vI (940 + 12 * (V 20) + 5), .ref (gw_ad w 93)]) rfl (S2 := (va_up (va_up S153 93 (AJ w 1200 (updZ (V1) (940 + 12 * (V 20) + 3) (WK153 8)))) 93 (AJ w 1200 (updZ (updZ (V1) (940 + 12 * (V 20) + 3) (WK153 8)) (940 + 12 * (V 20) + 4) (0))))) rfl ?_
                refine g_lconst (pc := 179) hX (z := 0) rfl dX7_dispute_179 ?_
                refine g_last (pc := 180) hX 93 (by omega) (up_eq _ _ _) (by omega) (by omega) (by decide) dX7_dispute_180 ?_
                refine g_at rfl rfl rfl (S2 := (va_up (va_up (va_up S153 93 (AJ w 1200 (updZ (V1) (940 + 12 * (V 20) + 3) (WK153 8)))) 93 (AJ w 1200 (updZ (updZ (V1) (940 + 12 * (V 20) + 3) (WK153 8)) (940 + 12 * (V 20) + 4) (0)))) 93 (AJ w 1200 (updZ (updZ (updZ (V1) (940 + 12 * (V 20) + 3) (WK153 8)) (940 + 12 * (V 20) + 4) (0)) (940 + 12 * (V 20) + 5) (0))))) rfl ?_
                refine g_aload_n (pc := 181) hX 1 rfl dX7_dispute_181 ?_
                refine g_get (pc := 182) hX (ci := 7) (fun _ h => List.mem_cons_of_mem _ (List.mem_append_right _ h)) rfl 92 (by omega) (up_ne (by decide) (up_ne (by decide) (up_ne (by decide) m153_92))) 0 (by decide) (List.mem_of_getElem? (i := 6) rfl) rfl (v := .ref (gw_ad w 93)) rfl dX7_dispute_182 ?_
                refine g_iload (pc := 185) hX 0 rfl dX7_dispute_185 ?_
                refine g_bipush (pc := 187) hX (by decide) dX7_dispute_187 ?_
                refine g_callT1 (pc := 189) (As := [vI (V 20), vI (6)]) (st2 := [.ref (gw_ad w 93)]) hX (c_X7_noteAt (z := V 20) (k := 6)) gX7_dispute_X7_noteAt (n := 2) (hw := rfl) (hrc := rfl) (hrs := rfl) (hd := by decide +kernel) (hR := ⟨Nat.le_of_ble_eq_true rfl, Nat.le_of_ble_eq_true rfl⟩) (hn := rfl) (hst := rfl) (hsum := Nat.le_of_ble_eq_true rfl) (hdg := dX7_dispute_189) ?_
                rintro _ S9 ⟨rfl, e9⟩
                rw [e9]
                clear e9 S9
                refine g_at (pc2 := 192) rfl rfl (st2 := [vI (940 + 12 * (V 20) + 6), .ref (gw_ad w 93)]) rfl (S2 := (va_up (va_up (va_up S153 93 (AJ w 1200 (updZ (V1) (940 + 12 * (V 20) + 3) (WK153 8)))) 93 (AJ w 1200 (updZ (updZ (V1) (940 + 12 * (V 20) + 3) (WK153 8)) (940 + 12 * (V 20) + 4) (0)))) 93 (AJ w 1200 (updZ (updZ (updZ (V1) (940 + 12 * (V 20) + 3) (WK153 8)) (940 + 12 * (V 20) + 4) (0)) (940 + 12 * (V 20) + 5) (0))))) rfl ?_
                refine g_aload_n (pc := 192) hX 1 rfl dX7_dispute_192 ?_
                refine g_get (pc := 193) hX (ci := 7) (fun _ h => List.mem_cons_of_mem _ (List.mem_append_right _ h)) rfl 92 (by omega) (up_ne (by decide) (up_ne (by decide) (up_ne (by decide) m153_92))) 16 (by decide) (List.mem_of_getElem? (i := 9) rfl) rfl (v := .ref (gw_ad w 102)) rfl dX7_dispute_193 ?_
                refine g_iconst (pc := 196) hX dX7_dispute_196 ?_
                refine g_lald (pc := 197) hX 102 (by omega) (up_ne (by decide) (up_ne (by decide) (up_ne (by decide) m153_102))) (by omega) (by omega) (by decide) dX7_dispute_197 ?_
                refine g_last (pc := 198) hX 93 (by omega) (up_eq _ _ _) (by omega) (by omega) (by decide) dX7_dispute_198 ?_
                refine g_at rfl rfl rfl (S2 := (va_up (va_up (va_up (va_up S153 93 (AJ w 1200 (updZ (V1) (940 + 12 * (V 20) + 3) (WK153 8)))) 93 (AJ w 1200 (updZ (updZ (V1) (940 + 12 * (V 20) + 3) (WK153 8)) (940 + 12 * (V 20) + 4) (0)))) 93 (AJ w 1200 (updZ (updZ (updZ (V1) (940 + 12 * (V 20) + 3) (WK153 8)) (940 + 12 * (V 20) + 4) (0)) (940 + 12 * (V 20) + 5) (0)))) 93 (AJ w 1200 (updZ (updZ (updZ (updZ (V1) (940 + 12 * (V 20) + 3) (WK153 8)) (940 + 12 * (V 20) + 4) (0)) (940 + 12 * (V 20) + 5) (0)) (940 + 12 * (V 20) + 6) (WK153 5))))) rfl ?_
                refine g_aload_n (pc := 199) hX 1 rfl dX7_dispute_199 ?_
                refine g_get (pc := 200) hX (ci := 7) (fun _ h => List.mem_cons_of_mem _ (List.mem_append_right _ h)) rfl 92 (by omega) (up_ne (by decide) (up_ne (by decide) (up_ne (by decide) (up_ne (by decide) m153_92)))) 0 (by decide) (List.mem_of_getElem? (i := 6) rfl) rfl (v := .ref (gw_ad w 93)) rfl dX7_dispute_200 ?_
                refine g_iload (pc := 203) hX 0 rfl dX7_dispute_203 ?_
                refine g_bipush (pc := 205) hX (by decide) dX7_dispute_205 ?_
                refine g_callT1 (pc := 207) (As := [vI (V 20), vI (7)]) (st2 := [.ref (gw_ad w 93)]) hX (c_X7_noteAt (z := V 20) (k := 7)) gX7_dispute_X7_noteAt (n := 2) (hw := rfl) (hrc := rfl) (hrs := rfl) (hd := by decide +kernel) (hR := ⟨Nat.le_of_ble_eq_true rfl, Nat.le_of_ble_eq_true rfl⟩) (hn := rfl) (hst := rfl) (hsum := Nat.le_of_ble_eq_true rfl) (hdg := dX7_dispute_207) ?_
                rintro _ S9 ⟨rfl, e9⟩
                rw [e9]
                clear e9 S9
                refine g_at (pc2 := 210) rfl rfl (st2 := [vI (940 + 12 * (V 20) + 7), .ref (gw_ad w 93)]) rfl (S2 := (va_up (va_up (va_up (va_up S153 93 (AJ w 1200 (updZ (V1) (940 + 12 * (V 20) + 3) (WK153 8)))) 93 (AJ w 1200 (updZ (updZ (V1) (940 + 12 * (V 20) + 3) (WK153 8)) (940 + 12 * (V 20) + 4) (0)))) 93 (AJ w 1200 (updZ (updZ (updZ (V1) (940 + 12 * (V 20) + 3) (WK153 8)) (940 + 12 * (V 20) + 4) (0)) (940 + 12 * (V 20) + 5) (0)))) 93 (AJ w 1200 (updZ (updZ (updZ (updZ (V1) (940 + 12 * (V 20) + 3) (WK153 8)) (940 + 12 * (V 20) + 4) (0)) (940 + 12 * (V 20) + 5) (0)) (940 + 12 * (V 20) + 6) (WK153 5))))) rfl ?_
                refine g_aload_n (pc := 210) hX 1 rfl dX7_dispute_210 ?_
                refine g_get (pc := 211) hX (ci := 7) (fun _ h => List.mem_cons_of_mem _ (List.mem_append_right _ h)) rfl 92 (by omega) (up_ne (by decide) (up_ne (by decide) (up_ne (by decide) (up_ne (by decide) m153_92)))) 16 (by decide) (List.mem_of_getElem? (i := 9) rfl) rfl (v := .ref (gw_ad w 102)) rfl dX7_dispute_211 ?_
                refine g_bipush (pc := 214) hX (by decide) dX7_dispute_214 ?_
                refine g_lald (pc := 216) hX 102 (by omega) (up_ne (by decide) (up_ne (by decide) (up_ne (by decide) (up_ne (by decide) m153_102)))) (by omega) (by omega) (by decide) dX7_dispute_216 ?_
                refine g_last (pc := 217) hX 93 (by omega) (up_eq _ _ _) (by omega) (by omega) (by decide) dX7_dispute_217 ?_
                refine g_at rfl rfl rfl (S2 := (va_up (va_up (va_up (va_up (va_up S153 93 (AJ w 1200 (updZ (V1) (940 + 12 * (V 20) + 3) (WK153 8)))) 93 (AJ w 1200 (updZ (updZ (V1) (940 + 12 * (V 20) + 3) (WK153 8)) (940 + 12 * (V 20) + 4) (0)))) 93 (AJ w 1200 (updZ (updZ (updZ (V1) (940 + 12 * (V 20) + 3) (WK153 8)) (940 + 12 * (V 20) + 4) (0)) (940 + 12 * (V 20) + 5) (0)))) 93 (AJ w 1200 (updZ (updZ (updZ (updZ (V1) (940 + 12 * (V 20) + 3) (WK153 8)) (940 + 12 * (V 20) + 4) (0)) (940 + 12 * (V 20) + 5) (0)) (940 + 12 * (V 20) + 6) (WK153 5)))) 93 (AJ w 1200 (updZ (updZ (updZ (updZ (updZ (V1) (940 + 12 * (V 20) + 3) (WK153 8)) (940 + 12 * (V 20) + 4) (0)) (940 + 12 * (V 20) + 5) (0)) (940 + 12 * (V 20) + 6) (WK153 5)) (940 + 12 * (V 20) + 7) (WK153 6))))) rfl ?_
                refine g_aload_n (pc := 218) hX 1 rfl dX7_dispute_218 ?_
                refine g_get (pc := 219) hX (ci := 7) (fun _ h => List.mem_cons_of_mem _ (List.mem_append_right _ h)) rfl 92 (by omega) (up_ne (by decide) (up_ne (by decide) (up_ne (by decide) (up_ne (by decide) (up_ne (by decide) m153_92))))) 0 (by decide) (List.mem_of_getElem? (i := 6) rfl) rfl (v := .ref (gw_ad w 93)) rfl dX7_dispute_219 ?_
                refine g_iload (pc := 222) hX 0 rfl dX7_dispute_222 ?_
                refine g_bipush (pc := 224) hX (by decide) dX7_dispute_224 ?_
                refine g_callT1 (pc := 226) (As := [vI (V 20), vI (8)]) (st2 := [.ref (gw_ad w 93)]) hX (c_X7_noteAt (z := V 20) (k := 8)) gX7_dispute_X7_noteAt (n := 2) (hw := rfl) (hrc := rfl) (hrs := rfl) (hd := by decide +kernel) (hR := ⟨Nat.le_of_ble_eq_true rfl, Nat.le_of_ble_eq_true rfl⟩) (hn := rfl) (hst := rfl) (hsum := Nat.le_of_ble_eq_true rfl) (hdg := dX7_dispute_226) ?_
                rintro _ S9 ⟨rfl, e9⟩
                rw [e9]
                clear e9 S9
                refine g_at (pc2 := 229) rfl rfl (st2 := [vI (940 + 12 * (V 20) + 8), .ref (gw_ad w 93)]) rfl (S2 := (va_up (va_up (va_up (va_up (va_up S153 93 (AJ w 1200 (updZ (V1) (940 + 12 * (V 20) + 3) (WK153 8)))) 93 (AJ w 1200 (updZ (updZ (V1) (940 + 12 * (V 20) + 3) (WK153 8)) (940 + 12 * (V 20) + 4) (0)))) 93 (AJ w 1200 (updZ (updZ (updZ (V1) (940 + 12 * (V 20) + 3) (WK153 8)) (940 + 12 * (V 20) + 4) (0)) (940 + 12 * (V 20) + 5) (0)))) 93 (AJ w 1200 (updZ (updZ (updZ (updZ (V1) (940 + 12 * (V 20) + 3) (WK153 8)) (940 + 12 * (V 20) + 4) (0)) (940 + 12 * (V 20) + 5) (0)) (940 + 12 * (V 20) + 6) (WK153 5)))) 93 (AJ w 1200 (updZ (updZ (updZ (updZ (updZ (V1) (940 + 12 * (V 20) + 3) (WK153 8)) (940 + 12 * (V 20) + 4) (0)) (940 + 12 * (V 20) + 5) (0)) (940 + 12 * (V 20) + 6) (WK153 5)) (940 + 12 * (V 20) + 7) (WK153 6))))) rfl ?_
                refine g_aload_n (pc := 229) hX 1 rfl dX7_dispute_229 ?_
                refine g_get (pc := 230) hX (ci := 7) (fun _ h => List.mem_cons_of_mem _ (List.mem_append_right _ h)) rfl 92 (by omega) (up_ne (by decide) (up_ne (by decide) (up_ne (by decide) (up_ne (by decide) (up_ne (by decide) m153_92))))) 16 (by decide) (List.mem_of_getElem? (i := 9) rfl) rfl (v := .ref (gw_ad w 102)) rfl dX7_dispute_230 ?_
                refine g_bipush (pc := 233) hX (by decide) dX7_dispute_233 ?_
                refine g_lald (pc := 235) hX 102 (by omega) (up_ne (by decide) (up_ne (by decide) (up_ne (by decide) (up_ne (by decide) (up_ne (by decide) m153_102))))) (by omega) (by omega) (by decide) dX7_dispute_235 ?_
                refine g_last (pc := 236) hX 93 (by omega) (up_eq _ _ _) (by omega) (by omega) (by decide) dX7_dispute_236 ?_
                refine g_at rfl rfl rfl (S2 := (va_up (va_up (va_up (va_up (va_up (va_up S153 93 (AJ w 1200 (updZ (V1) (940 + 12 * (V 20) + 3) (WK153 8)))) 93 (AJ w 1200 (updZ (updZ (V1) (940 + 12 * (V 20) + 3) (WK153 8)) (940 + 12 * (V 20) + 4) (0)))) 93 (AJ w 1200 (updZ (updZ (updZ (V1) (940 + 12 * (V 20) + 3) (WK153 8)) (940 + 12 * (V 20) + 4) (0)) (940 + 12 * (V 20) + 5) (0)))) 93 (AJ w 1200 (updZ (updZ (updZ (updZ (V1) (940 + 12 * (V 20) + 3) (WK153 8)) (940 + 12 * (V 20) + 4) (0)) (940 + 12 * (V 20) + 5) (0)) (940 + 12 * (V 20) + 6) (WK153 5)))) 93 (AJ w 1200 (updZ (updZ (updZ (updZ (updZ (V1) (940 + 12 * (V 20) + 3) (WK153 8)) (940 + 12 * (V 20) + 4) (0)) (940 + 12 * (V 20) + 5) (0)) (940 + 12 * (V 20) + 6) (WK153 5)) (940 + 12 * (V 20) + 7) (WK153 6)))) 93 (AJ w 1200 (updZ (updZ (updZ (updZ (updZ (updZ (V1) (940 + 12 * (V 20) + 3) (WK153 8)) (940 + 12 * (V 20) + 4) (0)) (940 + 12 * (V 20) + 5) (0)) (940 + 12 * (V 20) + 6) (WK153 5)) (940 + 12 * (V 20) + 7) (WK153 6)) (940 + 12 * (V 20) + 8) (WK153 7))))) rfl ?_
                obtain ⟨V3, eV3⟩ : ∃ f : Int → Int, f = updZ (updZ (updZ (updZ (updZ (updZ (V1) (940 + 12 * (V 20) + 3) (WK153 8)) (940 + 12 * (V 20) + 4) (0)) (940 + 12 * (V 20) + 5) (0)) (940 + 12 * (V 20) + 6) (WK153 5)) (940 + 12 * (V 20) + 7) (WK153 6)) (940 + 12 * (V 20) + 8) (WK153 7) := ⟨_, rfl⟩
                refine g_at rfl rfl rfl (S2 := (va_up (va_up (va_up (va_up (va_up (va_up S153 93 (AJ w 1200 (updZ (V1) (940 + 12 * (V 20) + 3) (WK153 8)))) 93 (AJ w 1200 (updZ (updZ (V1) (940 + 12 * (V 20) + 3) (WK153 8)) (940 + 12 * (V 20) + 4) (0)))) 93 (AJ w 1200 (updZ (updZ (updZ (V1) (940 + 12 * (V 20) + 3) (WK153 8)) (940 + 12 * (V 20) + 4) (0)) (940 + 12 * (V 20) + 5) (0)))) 93 (AJ w 1200 (updZ (updZ (updZ (updZ (V1) (940 + 12 * (V 20) + 3) (WK153 8)) (940 + 12 * (V 20) + 4) (0)) (940 + 12 * (V 20) + 5) (0)) (940 + 12 * (V 20) + 6) (WK153 5)))) 93 (AJ w 1200 (updZ (updZ (updZ (updZ (updZ (V1) (940 + 12 * (V 20) + 3) (WK153 8)) (940 + 12 * (V 20) + 4) (0)) (940 + 12 * (V 20) + 5) (0)) (940 + 12 * (V 20) + 6) (WK153 5)) (940 + 12 * (V 20) + 7) (WK153 6)))) 93 (AJ w 1200 (V3)))) (by rw [eV3]) ?_
                have hV3 : V3 = actW V (ntF p x y WK153) (940 + 12 * V 20) 9 := by rw [eV3, eV1]; exact ntF_r
                refine g_iconst (pc := 237) hX dX7_dispute_237 ?_
                refine g_istore (pc := 238) hX (lv2 := [(5, vI (0)), (4, vI (V 20)), (0, .ref (gw_ad w 92)), (1, vI (p)), (2, vI (x)), (3, vI (y))]) (by decide) rfl dX7_dispute_238 ?_
                have lk : ∀ (n0 : Nat) (k : Int), 0 ≤ k → k ≤ 3 → 3 - k < n0 → G w { frames := 5, cells := 0, slots := 0, locals := 118 } X 6 240 [(5, vI (k)), (0, .ref (gw_ad w 92)), (4, vI (V 20))] [] (va_up (va_up (va_up (va_up (va_up (va_up (va_up S153 93 (AJ w 1200 (updZ (V1) (940 + 12 * (V 20) + 3) (WK153 8)))) 93 (AJ w 1200 (updZ (updZ (V1) (940 + 12 * (V 20) + 3) (WK153 8)) (940 + 12 * (V 20) + 4) (0)))) 93 (AJ w 1200 (updZ (updZ (updZ (V1) (940 + 12 * (V 20) + 3) (WK153 8)) (940 + 12 * (V 20) + 4) (0)) (940 + 12 * (V 20) + 5) (0)))) 93 (AJ w 1200 (updZ (updZ (updZ (updZ (V1) (940 + 12 * (V 20) + 3) (WK153 8)) (940 + 12 * (V 20) + 4) (0)) (940 + 12 * (V 20) + 5) (0)) (940 + 12 * (V 20) + 6) (WK153 5)))) 93 (AJ w 1200 (updZ (updZ (updZ (updZ (updZ (V1) (940 + 12 * (V 20) + 3) (WK153 8)) (940 + 12 * (V 20) + 4) (0)) (940 + 12 * (V 20) + 5) (0)) (940 + 12 * (V 20) + 6) (WK153 5)) (940 + 12 * (V 20) + 7) (WK153 6)))) 93 (AJ w 1200 (V3))) 93 (AJ w 1200 (actW V (ntF p x y WK153) (940 + 12 * V 20) (9 + k)))) := by
                  intro n0
                  induction n0 with
                  | zero => intro k  h1k h2k h3k; exact absurd h3k (by omega)
                  | succ n0 ihlk =>
                    intro k  h1k h2k h3k 
                    have hk : inI k := inI_mk (by omega) (by omega)
                    refine g_iload (pc := 240) hX 0 rfl dX7_dispute_240 ?_
                    refine g_iconst (pc := 242) hX dX7_dispute_242 ?_
                    refine g_icmp_ge (pc := 243) (tgt := 277) hX (by first | assumption | exact inI_mk (by omega) (by omega)) (by first | assumption | exact inI_mk (by omega) (by omega)) dX7_dispute_243 (by decide) (fun c_243 => ?_) (fun c_243 => ?_)
                    · skip
                      refine g_aload_n (pc := 277) hX 1 rfl dX7_dispute_277 ?_
                      refine g_get (pc := 278) hX (ci := 7) (fun _ h => List.mem_cons_of_mem _ (List.mem_append_right _ h)) rfl 92 (by omega) (up_ne (by decide) (up_ne (by decide) (up_ne (by decide) (up_ne (by decide) (up_ne (by decide) (up_ne (by decide) (up_ne (by decide) m153_92))))))) 0 (by decide) (List.mem_of_getElem? (i := 6) rfl) rfl (v := .ref (gw_ad w 93)) rfl dX7_dispute_278 ?_
                      refine g_bipush (pc := 281) hX (by decide) dX7_dispute_281 ?_
                      refine g_dup2 (pc := 283) hX rfl rfl dX7_dispute_283 ?_
                      refine g_lald (pc := 284) hX 93 (by omega) (up_eq _ _ _) (by omega) (by omega) (by decide) dX7_dispute_284 ?_
                      refine g_at rfl rfl (st2 := [vL (V 20), vI (20), .ref (gw_ad w 93)]) (by rw [show (actW V (ntF p x y WK153) (940 + 12 * V 20) (9 + k)) 20 = V 20 from by unfold actW; rw [if_neg (by omega)]]) rfl ?_
                      refine g_lconst (pc := 285) hX (z := 1) rfl dX7_dispute_285 ?_
                      refine g_ladd (pc := 286) hX dX7_dispute_286 ?_
                      refine g_last (pc := 287) hX 93 (by omega) (up_eq _ _ _) (by omega) (by omega) (by decide) dX7_dispute_287 ?_
                      refine g_at rfl rfl rfl (S2 := (va_up (va_up (va_up (va_up (va_up (va_up (va_up (va_up S153 93 (AJ w 1200 (updZ (V1) (940 + 12 * (V 20) + 3) (WK153 8)))) 93 (AJ w 1200 (updZ (updZ (V1) (940 + 12 * (V 20) + 3) (WK153 8)) (940 + 12 * (V 20) + 4) (0)))) 93 (AJ w 1200 (updZ (updZ (updZ (V1) (940 + 12 * (V 20) + 3) (WK153 8)) (940 + 12 * (V 20) + 4) (0)) (940 + 12 * (V 20) + 5) (0)))) 93 (AJ w 1200 (updZ (updZ (updZ (updZ (V1) (940 + 12 * (V 20) + 3) (WK153 8)) (940 + 12 * (V 20) + 4) (0)) (940 + 12 * (V 20) + 5) (0)) (940 + 12 * (V 20) + 6) (WK153 5)))) 93 (AJ w 1200 (updZ (updZ (updZ (updZ (updZ (V1) (940 + 12 * (V 20) + 3) (WK153 8)) (940 + 12 * (V 20) + 4) (0)) (940 + 12 * (V 20) + 5) (0)) (940 + 12 * (V 20) + 6) (WK153 5)) (940 + 12 * (V 20) + 7) (WK153 6)))) 93 (AJ w 1200 (V3))) 93 (AJ w 1200 (actW V (ntF p x y WK153) (940 + 12 * V 20) (9 + k)))) 93 (AJ w 1200 (updZ (actW V (ntF p x y WK153) (940 + 12 * V 20) (9 + k)) (20) ((V 20) + 1))))) rfl ?_
                      refine g_iload (pc := 288) hX 2 rfl dX7_dispute_288 ?_
                      refine g_iret (pc := 290) hX hR dX7_dispute_290 ?_
                      try simp only [decide_eq_true_eq, decide_eq_false_iff_not] at c_243
                      have hk3 : k = 3 := by omega
                      subst hk3
                      refine (if_pos (by rw [if_pos (by omega)]; omega)).mpr ((if_pos (by omega)).mpr ((if_neg (by omega)).mpr (⟨xm86, at86, wm86, wh86, ir86, TX86, WT86, MK86, MM86, CH86, AM86, WK153, FL153, PI153, ?_, hT86, hW86, hfl153, hpi153, hRd86, rfl⟩)))
                      have hW2 : ∀ i, 0 ≤ i → i < 12 → ntF p x y WK153 i = ntF p x y (wiW V MK86 MM86 CH86 AM86 p x y) i := fun i h0 h1 => by
                        have hw : ∀ j, 0 ≤ j → j ≤ 11 → WK153 j = wiW V MK86 MM86 CH86 AM86 p x y j := fun j a b => by rw [hwk153 j a b, ewi]
                        unfold ntF
                        rw [hw 8 (by decide) (by decide), hw 5 (by decide) (by decide), hw 6 (by decide) (by decide), hw 7 (by decide) (by decide), hw i h0 (by omega)]
                      unfold diV
                      rw [← actW_c hW2]
                      exact ⟨⟨⟨(up_ne (by decide) (up_ne (by decide) (up_ne (by decide) (up_ne (by decide) (up_ne (by decide) (up_ne (by decide) (up_ne (by decide) (up_ne (by decide) m153_92)))))))), (up_eq _ _ _), (up_ne (by decide) (up_ne (by decide) (up_ne (by decide) (up_ne (by decide) (up_ne (by decide) (up_ne (by decide) (up_ne (by decide) (up_ne (by decide) m153_94))))))))⟩, ⟨(up_ne (by decide) (up_ne (by decide) (up_ne (by decide) (up_ne (by decide) (up_ne (by decide) (up_ne (by decide) (up_ne (by decide) (up_ne (by decide) m153_95)))))))), (up_ne (by decide) (up_ne (by decide) (up_ne (by decide) (up_ne (by decide) (up_ne (by decide) (up_ne (by decide) (up_ne (by decide) (up_ne (by decide) m153_96))))))))⟩, ⟨(up_ne (by decide) (up_ne (by decide) (up_ne (by decide) (up_ne (by decide) (up_ne (by decide) (up_ne (by decide) (up_ne (by decide) (up_ne (by decide) m153_97)))))))), (up_ne (by decide) (up_ne (by decide) (up_ne (by decide) (up_ne (by decide) (up_ne (by decide) (up_ne (by decide) (up_ne (by decide) (up_ne (by decide) m153_98)))))))), (up_ne (by decide) (up_ne (by decide) (up_ne (by decide) (up_ne (by decide) (up_ne (by decide) (up_ne (by decide) (up_ne (by decide) (up_ne (by decide) m153_99)))))))), (up_ne (by decide) (up_ne (by decide) (up_ne (by decide) (up_ne (by decide) (up_ne (by decide) (up_ne (by decide) (up_ne (by decide) (up_ne (by decide) m153_100)))))))), (up_ne (by decide) (up_ne (by decide) (up_ne (by decide) (up_ne (by decide) (up_ne (by decide) (up_ne (by decide) (up_ne (by decide) (up_ne (by decide) m153_101))))))))⟩, ⟨(up_ne (by decide) (up_ne (by decide) (up_ne (by decide) (up_ne (by decide) (up_ne (by decide) (up_ne (by decide) (up_ne (by decide) (up_ne (by decide) m153_102)))))))), (up_ne (by decide) (up_ne (by decide) (up_ne (by decide) (up_ne (by decide) (up_ne (by decide) (up_ne (by decide) (up_ne (by decide) (up_ne (by decide) m153_103)))))))), (up_ne (by decide) (up_ne (by decide) (up_ne (by decide) (up_ne (by decide) (up_ne (by decide) (up_ne (by decide) (up_ne (by decide) (up_ne (by decide) m153_104))))))))⟩⟩, fun q hq => (up_ne (by omega) (up_ne (by omega) (up_ne (by omega) (up_ne (by omega) (up_ne (by omega) (up_ne (by omega) (up_ne (by omega) (up_ne (by omega) ((hP153.2 q hq).trans (up_ne (by omega) (up_ne (by omega) (up_ne (by omega) ((hP86.2 q hq).trans ((hP82.2 q hq).trans rfl))))))))))))))⟩
                    · skip
                      refine g_aload_n (pc := 246) hX 1 rfl dX7_dispute_246 ?_
                      refine g_get (pc := 247) hX (ci := 7) (fun _ h => List.mem_cons_of_mem _ (List.mem_append_right _ h)) rfl 92 (by omega) (up_ne (by decide) (up_ne (by decide) (up_ne (by decide) (up_ne (by decide) (up_ne (by decide) (up_ne (by decide) (up_ne (by decide) m153_92))))))) 0 (by decide) (List.mem_of_getElem? (i := 6) rfl) rfl (v := .ref (gw_ad w 93)) rfl dX7_dispute_247 ?_
                      refine g_iload (pc := 250) hX 2 rfl dX7_dispute_250 ?_
                      refine g_bipush (pc := 252) hX (by decide) dX7_dispute_252 ?_
                      refine g_iload (pc := 254) hX 0 rfl dX7_dispute_254 ?_
                      refine g_iadd (pc := 256) hX dX7_dispute_256 ?_
                      refine g_callT1 (pc := 257) (As := [vI (V 20), vI (9 + k)]) (st2 := [.ref (gw_ad w 93)]) hX (c_X7_noteAt (z := V 20) (k := 9 + k)) gX7_dispute_X7_noteAt (n := 2) (hw := rfl) (hrc := rfl) (hrs := rfl) (hd := by decide +kernel) (hR := ⟨Nat.le_of_ble_eq_true rfl, Nat.le_of_ble_eq_true rfl⟩) (hn := rfl) (hst := rfl) (hsum := Nat.le_of_ble_eq_true rfl) (hdg := dX7_dispute_257) ?_
                      rintro _ S9 ⟨rfl, e9⟩
                      rw [e9]
                      clear e9 S9
                      refine g_at (pc2 := 260) rfl rfl (st2 := [vI (940 + 12 * (V 20) + (9 + k)), .ref (gw_ad w 93)]) rfl (S2 := (va_up (va_up (va_up (va_up (va_up (va_up (va_up S153 93 (AJ w 1200 (updZ (V1) (940 + 12 * (V 20) + 3) (WK153 8)))) 93 (AJ w 1200 (updZ (updZ (V1) (940 + 12 * (V 20) + 3) (WK153 8)) (940 + 12 * (V 20) + 4) (0)))) 93 (AJ w 1200 (updZ (updZ (updZ (V1) (940 + 12 * (V 20) + 3) (WK153 8)) (940 + 12 * (V 20) + 4) (0)) (940 + 12 * (V 20) + 5) (0)))) 93 (AJ w 1200 (updZ (updZ (updZ (updZ (V1) (940 + 12 * (V 20) + 3) (WK153 8)) (940 + 12 * (V 20) + 4) (0)) (940 + 12 * (V 20) + 5) (0)) (940 + 12 * (V 20) + 6) (WK153 5)))) 93 (AJ w 1200 (updZ (updZ (updZ (updZ (updZ (V1) (940 + 12 * (V 20) + 3) (WK153 8)) (940 + 12 * (V 20) + 4) (0)) (940 + 12 * (V 20) + 5) (0)) (940 + 12 * (V 20) + 6) (WK153 5)) (940 + 12 * (V 20) + 7) (WK153 6)))) 93 (AJ w 1200 (V3))) 93 (AJ w 1200 (actW V (ntF p x y WK153) (940 + 12 * V 20) (9 + k))))) rfl ?_
                      refine g_aload_n (pc := 260) hX 1 rfl dX7_dispute_260 ?_
                      refine g_get (pc := 261) hX (ci := 7) (fun _ h => List.mem_cons_of_mem _ (List.mem_append_right _ h)) rfl 92 (by omega) (up_ne (by decide) (up_ne (by decide) (up_ne (by decide) (up_ne (by decide) (up_ne (by decide) (up_ne (by decide) (up_ne (by decide) m153_92))))))) 16 (by decide) (List.mem_of_getElem? (i := 9) rfl) rfl (v := .ref (gw_ad w 102)) rfl dX7_dispute_261 ?_
                      refine g_bipush (pc := 264) hX (by decide) dX7_dispute_264 ?_
                      refine g_iload (pc := 266) hX 0 rfl dX7_dispute_266 ?_
                      refine g_iadd (pc := 268) hX dX7_dispute_268 ?_
                      refine g_lald (pc := 269) hX 102 (by omega) (up_ne (by decide) (up_ne (by decide) (up_ne (by decide) (up_ne (by decide) (up_ne (by decide) (up_ne (by decide) (up_ne (by decide) m153_102))))))) (by omega) (by omega) (by decide) dX7_dispute_269 ?_
                      refine g_last (pc := 270) hX 93 (by omega) (up_eq _ _ _) (by omega) (by omega) (by decide) dX7_dispute_270 ?_
                      refine g_at rfl rfl rfl (S2 := (va_up (va_up (va_up (va_up (va_up (va_up (va_up (va_up S153 93 (AJ w 1200 (updZ (V1) (940 + 12 * (V 20) + 3) (WK153 8)))) 93 (AJ w 1200 (updZ (updZ (V1) (940 + 12 * (V 20) + 3) (WK153 8)) (940 + 12 * (V 20) + 4) (0)))) 93 (AJ w 1200 (updZ (updZ (updZ (V1) (940 + 12 * (V 20) + 3) (WK153 8)) (940 + 12 * (V 20) + 4) (0)) (940 + 12 * (V 20) + 5) (0)))) 93 (AJ w 1200 (updZ (updZ (updZ (updZ (V1) (940 + 12 * (V 20) + 3) (WK153 8)) (940 + 12 * (V 20) + 4) (0)) (940 + 12 * (V 20) + 5) (0)) (940 + 12 * (V 20) + 6) (WK153 5)))) 93 (AJ w 1200 (updZ (updZ (updZ (updZ (updZ (V1) (940 + 12 * (V 20) + 3) (WK153 8)) (940 + 12 * (V 20) + 4) (0)) (940 + 12 * (V 20) + 5) (0)) (940 + 12 * (V 20) + 6) (WK153 5)) (940 + 12 * (V 20) + 7) (WK153 6)))) 93 (AJ w 1200 (V3))) 93 (AJ w 1200 (actW V (ntF p x y WK153) (940 + 12 * V 20) (9 + k)))) 93 (AJ w 1200 (updZ (actW V (ntF p x y WK153) (940 + 12 * V 20) (9 + k)) (940 + 12 * (V 20) + (9 + k)) (WK153 (9 + k)))))) rfl ?_
                      refine g_iinc (pc := 271) hX (lv2 := [(5, vI (k + 1)), (0, .ref (gw_ad w 92)), (4, vI (V 20))]) 0 rfl (by decide) rfl dX7_dispute_271 ?_
                      refine g_goto (pc := 274) (tgt := 240) hX dX7_dispute_274 (by decide) ?_
                      refine g_sub (lv2 := [(5, vI (k + 1)), (0, .ref (gw_ad w 92)), (4, vI (V 20))]) [0, 1, 2] rfl ?_
                      refine g_at rfl (lv2 := [(5, vI (k + 1)), (0, .ref (gw_ad w 92)), (4, vI (V 20))]) (rfl) rfl (S2 := (va_up (va_up (va_up (va_up (va_up (va_up (va_up S153 93 (AJ w 1200 (updZ (V1) (940 + 12 * (V 20) + 3) (WK153 8)))) 93 (AJ w 1200 (updZ (updZ (V1) (940 + 12 * (V 20) + 3) (WK153 8)) (940 + 12 * (V 20) + 4) (0)))) 93 (AJ w 1200 (updZ (updZ (updZ (V1) (940 + 12 * (V 20) + 3) (WK153 8)) (940 + 12 * (V 20) + 4) (0)) (940 + 12 * (V 20) + 5) (0)))) 93 (AJ w 1200 (updZ (updZ (updZ (updZ (V1) (940 + 12 * (V 20) + 3) (WK153 8)) (940 + 12 * (V 20) + 4) (0)) (940 + 12 * (V 20) + 5) (0)) (940 + 12 * (V 20) + 6) (WK153 5)))) 93 (AJ w 1200 (updZ (updZ (updZ (updZ (updZ (V1) (940 + 12 * (V 20) + 3) (WK153 8)) (940 + 12 * (V 20) + 4) (0)) (940 + 12 * (V 20) + 5) (0)) (940 + 12 * (V 20) + 6) (WK153 5)) (940 + 12 * (V 20) + 7) (WK153 6)))) 93 (AJ w 1200 (V3))) 93 (AJ w 1200 (actW V (ntF p x y WK153) (940 + 12 * V 20) (9 + (k + 1)))))) (by rw [up_up, ntF_s h1k]) ?_
                      exact ihlk (k + 1)  (by omega) (by omega) (by omega) 
                refine g_sub (lv2 := [(5, vI (0)), (0, .ref (gw_ad w 92)), (4, vI (V 20))]) [0, 2, 1] rfl ?_
                refine g_at rfl (lv2 := [(5, vI (0)), (0, .ref (gw_ad w 92)), (4, vI (V 20))]) (rfl) rfl (S2 := (va_up (va_up (va_up (va_up (va_up (va_up (va_up S153 93 (AJ w 1200 (updZ (V1) (940 + 12 * (V 20) + 3) (WK153 8)))) 93 (AJ w 1200 (updZ (updZ (V1) (940 + 12 * (V 20) + 3) (WK153 8)) (940 + 12 * (V 20) + 4) (0)))) 93 (AJ w 1200 (updZ (updZ (updZ (V1) (940 + 12 * (V 20) + 3) (WK153 8)) (940 + 12 * (V 20) + 4) (0)) (940 + 12 * (V 20) + 5) (0)))) 93 (AJ w 1200 (updZ (updZ (updZ (updZ (V1) (940 + 12 * (V 20) + 3) (WK153 8)) (940 + 12 * (V 20) + 4) (0)) (940 + 12 * (V 20) + 5) (0)) (940 + 12 * (V 20) + 6) (WK153 5)))) 93 (AJ w 1200 (updZ (updZ (updZ (updZ (updZ (V1) (940 + 12 * (V 20) + 3) (WK153 8)) (940 + 12 * (V 20) + 4) (0)) (940 + 12 * (V 20) + 5) (0)) (940 + 12 * (V 20) + 6) (WK153 5)) (940 + 12 * (V 20) + 7) (WK153 6)))) 93 (AJ w 1200 (V3))) 93 (AJ w 1200 (actW V (ntF p x y WK153) (940 + 12 * V 20) (9 + 0))))) (by rw [show actW V (ntF p x y WK153) (940 + 12 * V 20) (9 + 0) = V3 from hV3.symm, up_self (f := (va_up (va_up (va_up (va_up (va_up (va_up S153 93 (AJ w 1200 (updZ (V1) (940 + 12 * (V 20) + 3) (WK153 8)))) 93 (AJ w 1200 (updZ (updZ (V1) (940 + 12 * (V 20) + 3) (WK153 8)) (940 + 12 * (V 20) + 4) (0)))) 93 (AJ w 1200 (updZ (updZ (updZ (V1) (940 + 12 * (V 20) + 3) (WK153 8)) (940 + 12 * (V 20) + 4) (0)) (940 + 12 * (V 20) + 5) (0)))) 93 (AJ w 1200 (updZ (updZ (updZ (updZ (V1) (940 + 12 * (V 20) + 3) (WK153 8)) (940 + 12 * (V 20) + 4) (0)) (940 + 12 * (V 20) + 5) (0)) (940 + 12 * (V 20) + 6) (WK153 5)))) 93 (AJ w 1200 (updZ (updZ (updZ (updZ (updZ (V1) (940 + 12 * (V 20) + 3) (WK153 8)) (940 + 12 * (V 20) + 4) (0)) (940 + 12 * (V 20) + 5) (0)) (940 + 12 * (V 20) + 6) (WK153 5)) (940 + 12 * (V 20) + 7) (WK153 6)))) 93 (AJ w 1200 (V3)))) (up_eq _ _ _)]) ?_
                exact lk ((3 : Int) - 0 + 1).toNat 0  (by omega) (by omega) (by omega) 
              · skip
                refine g_ldc (pc := 78) hX (z := -1000003) (List.mem_of_getElem? (i := 8) rfl) (by decide +kernel) dX7_dispute_78 ?_
                refine g_iret (pc := 80) hX hR dX7_dispute_80 ?_
                try simp only [decide_eq_true_eq, decide_eq_false_iff_not] at c_5 c_17 c_24 c_39 c_50 c_58 c_74
                exact (if_pos (by rw [if_pos (by omega)]; omega)).mpr ((if_pos (by omega)).mpr ((if_pos (by omega)).mpr (⟨rfl, rfl⟩)))
            · skip
              refine g_ldc (pc := 61) hX (z := -1000002) (List.mem_of_getElem? (i := 5) rfl) (by decide +kernel) dX7_dispute_61 ?_
              refine g_iret (pc := 63) hX hR dX7_dispute_63 ?_
              try simp only [decide_eq_true_eq, decide_eq_false_iff_not] at c_5 c_17 c_24 c_39 c_50 c_58
              exact (if_pos (by rw [if_pos (by omega)]; omega)).mpr ((if_neg (by omega)).mpr (⟨rfl, rfl⟩))
        · skip
          refine g_ldc (pc := 42) hX (z := -1000001) (List.mem_of_getElem? (i := 4) rfl) (by decide +kernel) dX7_dispute_42 ?_
          refine g_iret (pc := 44) hX hR dX7_dispute_44 ?_
          try simp only [decide_eq_true_eq, decide_eq_false_iff_not] at c_5 c_17 c_24 c_39
          exact (if_neg (by rw [if_pos (by omega)]; omega)).mpr (⟨rfl, rfl⟩)

set_option maxHeartbeats 4000000 in
set_option maxRecDepth 100000 in
theorem c_X7_settle {w : gW} {l : Launch} {S : Nat → va_E} {pm tm xm at_ wm wh : Int} {ir : Bool} {V PV TY TX MK MM CH AM WT WK FL PI : Int → Int} (hN : gw_N w = 105) (hm : modelAt w pm tm xm at_ wm wh ir V PV TY TX MK MM CH AM WT WK FL PI S) (hL : vLim V) (hpm : 0 ≤ pm ∧ pm ≤ 4) (h19 : 0 ≤ V 19 ∧ V 19 ≤ 30) (h20 : 0 ≤ V 20 ∧ V 20 ≤ 20) (hno : ∀ n, 0 ≤ n → n < V 20 → (0 ≤ V (940 + 12 * n + 0) ∧ V (940 + 12 * n + 0) < V 19) ∧ 0 ≤ V (940 + 12 * n + 1) ∧ V (940 + 12 * n + 1) ≤ 3) {n : Int} {ac : Bool} (hn : inI n) :
    GM1 w l yX7_settle wsX7_settle { frames := 1, cells := 0, slots := 0, locals := 25 } [.ref (gw_ad w 92), vI (n), vI (bz (ac))] S
      (fun v S' => if 0 ≤ n ∧ n ≤ V 20 - 1 then (if V (940 + 12 * n + 4) = 0 then (if ac = true then v = vI (bkV V n) ∧ POSTM w S (actN pm) tm xm at_ wm wh ir (seV V n) (actP pm PV V) TY TX MK MM CH AM WT WK FL PI S' else v = vI 0 ∧ POSTM w S (actN pm) tm xm at_ wm wh ir (updZ V (940 + 12 * n + 4) 2) (actP pm PV V) TY TX MK MM CH AM WT WK FL PI S') else v = vI (-1000002) ∧ S' = S) else v = vI (-1000001) ∧ S' = S) := by
  refine GM.start (own := RX7) (n := "settle") (d := "(IZ)I") (by decide) rfl (Nat.le_of_ble_eq_true rfl) ?_
  intro X hX hR hXl
  subst hXl
  refine g_at rfl (lv2 := [(0, .ref (gw_ad w 92)), (1, vI (n)), (2, vI (bz (ac)))]) rfl rfl rfl ?_
  obtain ⟨⟨m92, m93, m94⟩, ⟨m95, m96⟩, ⟨m97, m98, m99, m100, m101⟩, ⟨m102, m103, m104⟩⟩ := (id hm)
  refine g_iload_n (pc := 0) hX 1 rfl dX7_settle_0 ?_
  refine g_i2l (pc := 1) hX (by first | assumption | exact inI_mk (by omega) (by omega)) dX7_settle_1 ?_
  refine g_lconst (pc := 2) hX (z := 0) rfl dX7_settle_2 ?_
  refine g_aload_n (pc := 3) hX 0 rfl dX7_settle_3 ?_
  refine g_get (pc := 4) hX (ci := 7) (fun _ h => List.mem_cons_of_mem _ (List.mem_append_right _ h)) rfl 92 (by omega) m92 0 (by decide) (List.mem_of_getElem? (i := 1) rfl) rfl (v := .ref (gw_ad w 93)) rfl dX7_settle_4 ?_
  refine g_bipush (pc := 7) hX (by decide) dX7_settle_7 ?_
  refine g_lald (pc := 9) hX 93 (by omega) m93 (by omega) (by omega) (by decide) dX7_settle_9 ?_
  refine g_lconst (pc := 10) hX (z := 1) rfl dX7_settle_10 ?_
  refine g_lsub (pc := 11) hX dX7_settle_11 ?_
  refine g_callT1 (pc := 12) (As := [vL (n), vL (0), vL ((V 20) - 1)]) (st2 := []) hX (c_X7_in (x := n) (a := 0) (b := (V 20) - 1) (by first | assumption | exact inI_L (by assumption) | exact inL_mk (by omega) (by omega)) (by first | assumption | exact inI_L (by assumption) | exact inL_mk (by omega) (by omega)) (by first | assumption | exact inI_L (by assumption) | exact inL_mk (by omega) (by omega))) gX7_settle_X7_in (n := 3) (hw := rfl) (hrc := rfl) (hrs := rfl) (hd := by decide +kernel) (hR := ⟨Nat.le_of_ble_eq_true rfl, Nat.le_of_ble_eq_true rfl⟩) (hn := rfl) (hst := rfl) (hsum := Nat.le_of_ble_eq_true rfl) (hdg := dX7_settle_12) ?_
  rintro _ S9 ⟨rfl, e9⟩
  rw [e9]
  clear e9 S9
  refine g_at (pc2 := 15) rfl rfl (st2 := [vI (bz (decide (0 ≤ n ∧ n ≤ (V 20) - 1)))]) rfl (S2 := S) rfl ?_
  refine g_bif_ne (pc := 15) (tgt := 21) hX dX7_settle_15 (by decide) (fun c_15 => ?_) (fun c_15 => ?_)
  · skip
    have hn1 := of_decide_eq_true c_15
    have hl4 := hL (940 + 12 * n + 4)
    have hnn := hno n hn1.1 (by omega)
    refine g_aload_n (pc := 21) hX 0 rfl dX7_settle_21 ?_
    refine g_get (pc := 22) hX (ci := 7) (fun _ h => List.mem_cons_of_mem _ (List.mem_append_right _ h)) rfl 92 (by omega) m92 0 (by decide) (List.mem_of_getElem? (i := 1) rfl) rfl (v := .ref (gw_ad w 93)) rfl dX7_settle_22 ?_
    refine g_iload_n (pc := 25) hX 1 rfl dX7_settle_25 ?_
    refine g_iconst (pc := 26) hX dX7_settle_26 ?_
    refine g_callT1 (pc := 27) (As := [vI (n), vI (4)]) (st2 := [.ref (gw_ad w 93)]) hX (c_X7_noteAt (z := n) (k := 4)) gX7_settle_X7_noteAt (n := 2) (hw := rfl) (hrc := rfl) (hrs := rfl) (hd := by decide +kernel) (hR := ⟨Nat.le_of_ble_eq_true rfl, Nat.le_of_ble_eq_true rfl⟩) (hn := rfl) (hst := rfl) (hsum := Nat.le_of_ble_eq_true rfl) (hdg := dX7_settle_27) ?_
    rintro _ S9 ⟨rfl, e9⟩
    rw [e9]
    clear e9 S9
    refine g_at (pc2 := 30) rfl rfl (st2 := [vI (940 + 12 * n + 4), .ref (gw_ad w 93)]) rfl (S2 := S) rfl ?_
    refine g_lald (pc := 30) hX 93 (by omega) m93 (by omega) (by omega) (by decide) dX7_settle_30 ?_
    refine g_lconst (pc := 31) hX (z := 0) rfl dX7_settle_31 ?_
    refine g_lcmp_eq (pc := 32) (tgt := 39) hX (by first | assumption | exact inI_L (by assumption) | exact inL_mk (by omega) (by omega)) (by first | assumption | exact inI_L (by assumption) | exact inL_mk (by omega) (by omega)) dX7_settle_32 dX7_settle_33 (by decide) (fun c_32 => ?_) (fun c_32 => ?_)
    · skip
      refine g_aload_n (pc := 39) hX 0 rfl dX7_settle_39 ?_
      refine g_callV0 (pc := 40) (ci := 7) (As := []) (st2 := []) hX 92 (by omega) m92 rfl (c_X7_act hN hm hpm) gX7_settle_X7_act (n := 0) (hw := rfl) (hrc := rfl) (hrs := rfl) (hd := by decide +kernel) (hR := ⟨Nat.le_of_ble_eq_true rfl, Nat.le_of_ble_eq_true rfl⟩) (hn := rfl) (hst := rfl) (hsum := Nat.le_of_ble_eq_true rfl) (hdg := dX7_settle_40) ?_
      rintro S40 hP40
      obtain ⟨⟨m40_92, m40_93, m40_94⟩, ⟨m40_95, m40_96⟩, ⟨m40_97, m40_98, m40_99, m40_100, m40_101⟩, ⟨m40_102, m40_103, m40_104⟩⟩ := hP40.1
      refine g_at (pc2 := 43) rfl rfl (st2 := []) rfl (S2 := S40) rfl ?_
      refine g_aload_n (pc := 43) hX 0 rfl dX7_settle_43 ?_
      refine g_get (pc := 44) hX (ci := 7) (fun _ h => List.mem_cons_of_mem _ (List.mem_append_right _ h)) rfl 92 (by omega) m40_92 0 (by decide) (List.mem_of_getElem? (i := 1) rfl) rfl (v := .ref (gw_ad w 93)) rfl dX7_settle_44 ?_
      refine g_iload_n (pc := 47) hX 1 rfl dX7_settle_47 ?_
      refine g_iconst (pc := 48) hX dX7_settle_48 ?_
      refine g_callT1 (pc := 49) (As := [vI (n), vI (4)]) (st2 := [.ref (gw_ad w 93)]) hX (c_X7_noteAt (z := n) (k := 4)) gX7_settle_X7_noteAt (n := 2) (hw := rfl) (hrc := rfl) (hrs := rfl) (hd := by decide +kernel) (hR := ⟨Nat.le_of_ble_eq_true rfl, Nat.le_of_ble_eq_true rfl⟩) (hn := rfl) (hst := rfl) (hsum := Nat.le_of_ble_eq_true rfl) (hdg := dX7_settle_49) ?_
      rintro _ S9 ⟨rfl, e9⟩
      rw [e9]
      clear e9 S9
      refine g_at (pc2 := 52) rfl rfl (st2 := [vI (940 + 12 * n + 4), .ref (gw_ad w 93)]) rfl (S2 := S40) rfl ?_
      refine g_iload_n (pc := 52) hX 2 rfl dX7_settle_52 ?_
      refine g_bif_eq (pc := 53) (tgt := 60) hX dX7_settle_53 (by decide) (fun c_53 => ?_) (fun c_53 => ?_)
      · skip
        refine g_ldc2 (pc := 60) hX (z := 2) (List.mem_of_getElem? (i := 4) rfl) (by decide +kernel) dX7_settle_60 ?_
        refine g_last (pc := 63) hX 93 (by omega) m40_93 (by omega) (by omega) (by decide) dX7_settle_63 ?_
        refine g_at rfl rfl rfl (S2 := (va_up S40 93 (AJ w 1200 (updZ (V) (940 + 12 * n + 4) (2))))) rfl ?_
        obtain ⟨V1, eV1⟩ : ∃ f : Int → Int, f = updZ (V) (940 + 12 * n + 4) (2) := ⟨_, rfl⟩
        refine g_at rfl rfl rfl (S2 := (va_up S40 93 (AJ w 1200 (V1)))) (by rw [eV1]) ?_
        have h1 : ∀ j, j ≠ 940 + 12 * n + 4 → V1 j = V j := fun j a => by rw [eV1, updZ_ne _ _ a]
        refine g_iload_n (pc := 64) hX 2 rfl dX7_settle_64 ?_
        refine g_bif_ne (pc := 65) (tgt := 70) hX dX7_settle_65 (by decide) (fun c_65 => ?_) (fun c_65 => ?_)
        · skip
          exact absurd (c_53.symm.trans c_65) (by decide)
        · skip
          refine g_iconst (pc := 68) hX dX7_settle_68 ?_
          refine g_iret (pc := 69) hX hR dX7_settle_69 ?_
          try simp only [decide_eq_true_eq, decide_eq_false_iff_not] at c_15 c_32
          subst eV1
          exact (if_pos (by omega)).mpr ((if_pos (by omega)).mpr ((if_neg (by rw [c_53]; decide)).mpr (⟨rfl, ⟨⟨⟨(up_ne (by decide) m40_92), (up_eq _ _ _), (up_ne (by decide) m40_94)⟩, ⟨(up_ne (by decide) m40_95), (up_ne (by decide) m40_96)⟩, ⟨(up_ne (by decide) m40_97), (up_ne (by decide) m40_98), (up_ne (by decide) m40_99), (up_ne (by decide) m40_100), (up_ne (by decide) m40_101)⟩, ⟨(up_ne (by decide) m40_102), (up_ne (by decide) m40_103), (up_ne (by decide) m40_104)⟩⟩, fun q hq => (up_ne (by omega) ((hP40.2 q hq).trans rfl))⟩⟩)))
      · skip
        refine g_lconst (pc := 56) hX (z := 1) rfl dX7_settle_56 ?_
        refine g_goto (pc := 57) (tgt := 63) hX dX7_settle_57 (by decide) ?_
        refine g_last (pc := 63) hX 93 (by omega) m40_93 (by omega) (by omega) (by decide) dX7_settle_63 ?_
        refine g_at rfl rfl rfl (S2 := (va_up S40 93 (AJ w 1200 (updZ (V) (940 + 12 * n + 4) (1))))) rfl ?_
        obtain ⟨V1, eV1⟩ : ∃ f : Int → Int, f = updZ (V) (940 + 12 * n + 4) (1) := ⟨_, rfl⟩
        refine g_at rfl rfl rfl (S2 := (va_up S40 93 (AJ w 1200 (V1)))) (by rw [eV1]) ?_
        have h1 : ∀ j, j ≠ 940 + 12 * n + 4 → V1 j = V j := fun j a => by rw [eV1, updZ_ne _ _ a]
        refine g_iload_n (pc := 64) hX 2 rfl dX7_settle_64 ?_
        refine g_bif_ne (pc := 65) (tgt := 70) hX dX7_settle_65 (by decide) (fun c_65 => ?_) (fun c_65 => ?_)
        · skip
          refine g_aload_n (pc := 70) hX 0 rfl dX7_settle_70 ?_
          refine g_get (pc := 71) hX (ci := 7) (fun _ h => List.mem_cons_of_mem _ (List.mem_append_right _ h)) rfl 92 (by omega) (up_ne (by decide) m40_92) 0 (by decide) (List.mem_of_getElem? (i := 1) rfl) rfl (v := .ref (gw_ad w 93)) rfl dX7_settle_71 ?_
          refine g_iload_n (pc := 74) hX 1 rfl dX7_settle_74 ?_
          refine g_iconst (pc := 75) hX dX7_settle_75 ?_
          refine g_callT1 (pc := 76) (As := [vI (n), vI (0)]) (st2 := [.ref (gw_ad w 93)]) hX (c_X7_noteAt (z := n) (k := 0)) gX7_settle_X7_noteAt (n := 2) (hw := rfl) (hrc := rfl) (hrs := rfl) (hd := by decide +kernel) (hR := ⟨Nat.le_of_ble_eq_true rfl, Nat.le_of_ble_eq_true rfl⟩) (hn := rfl) (hst := rfl) (hsum := Nat.le_of_ble_eq_true rfl) (hdg := dX7_settle_76) ?_
          rintro _ S9 ⟨rfl, e9⟩
          rw [e9]
          clear e9 S9
          refine g_at (pc2 := 79) rfl rfl (st2 := [vI (940 + 12 * n + 0), .ref (gw_ad w 93)]) rfl (S2 := (va_up S40 93 (AJ w 1200 (V1)))) rfl ?_
          refine g_lald (pc := 79) hX 93 (by omega) (up_eq _ _ _) (by omega) (by omega) (by decide) dX7_settle_79 ?_
          refine g_at rfl rfl (st2 := [vL (V (940 + 12 * n + 0))]) (by rw [show V1 (940 + 12 * n + 0) = V (940 + 12 * n + 0) from h1 _ (by omega)]) rfl ?_
          refine g_l2i (pc := 80) hX dX7_settle_80 ?_
          obtain ⟨q, eq⟩ : ∃ z : Int, z = V (940 + 12 * n + 0) := ⟨_, rfl⟩
          refine g_at rfl rfl (st2 := [vI (q)]) (by rw [eq]) rfl ?_
          have hq : 0 ≤ q ∧ q < 30 := by rw [eq]; omega
          refine g_istore_n (pc := 81) hX (lv2 := [(3, vI (q)), (0, .ref (gw_ad w 92)), (1, vI (n)), (2, vI (bz (ac)))]) rfl (by decide) rfl dX7_settle_81 ?_
          refine g_aload_n (pc := 82) hX 1 rfl dX7_settle_82 ?_
          refine g_get (pc := 83) hX (ci := 7) (fun _ h => List.mem_cons_of_mem _ (List.mem_append_right _ h)) rfl 92 (by omega) (up_ne (by decide) m40_92) 0 (by decide) (List.mem_of_getElem? (i := 1) rfl) rfl (v := .ref (gw_ad w 93)) rfl dX7_settle_83 ?_
          refine g_iload_n (pc := 86) hX 0 rfl dX7_settle_86 ?_
          refine g_bipush (pc := 87) hX (by decide) dX7_settle_87 ?_
          refine g_callT1 (pc := 89) (As := [vI (q), vI (8)]) (st2 := [.ref (gw_ad w 93)]) hX (c_X7_parcelAt (z := q) (k := 8)) gX7_settle_X7_parcelAt (n := 2) (hw := rfl) (hrc := rfl) (hrs := rfl) (hd := by decide +kernel) (hR := ⟨Nat.le_of_ble_eq_true rfl, Nat.le_of_ble_eq_true rfl⟩) (hn := rfl) (hst := rfl) (hsum := Nat.le_of_ble_eq_true rfl) (hdg := dX7_settle_89) ?_
          rintro _ S9 ⟨rfl, e9⟩
          rw [e9]
          clear e9 S9
          refine g_at (pc2 := 92) rfl rfl (st2 := [vI (570 + 12 * q + 8), .ref (gw_ad w 93)]) rfl (S2 := (va_up S40 93 (AJ w 1200 (V1)))) rfl ?_
          refine g_lald (pc := 92) hX 93 (by omega) (up_eq _ _ _) (by omega) (by omega) (by decide) dX7_settle_92 ?_
          refine g_at rfl rfl (st2 := [vL (V (570 + 12 * q + 8))]) (by rw [show V1 (570 + 12 * q + 8) = V (570 + 12 * q + 8) from h1 _ (by omega)]) rfl ?_
          refine g_aload_n (pc := 93) hX 1 rfl dX7_settle_93 ?_
          refine g_get (pc := 94) hX (ci := 7) (fun _ h => List.mem_cons_of_mem _ (List.mem_append_right _ h)) rfl 92 (by omega) (up_ne (by decide) m40_92) 0 (by decide) (List.mem_of_getElem? (i := 1) rfl) rfl (v := .ref (gw_ad w 93)) rfl dX7_settle_94 ?_
          refine g_iload_n (pc := 97) hX 2 rfl dX7_settle_97 ?_
          refine g_iconst (pc := 98) hX dX7_settle_98 ?_
          refine g_callT1 (pc := 99) (As := [vI (n), vI (3)]) (st2 := [.ref (gw_ad w 93), vL (V (570 + 12 * q + 8))]) hX (c_X7_noteAt (z := n) (k := 3)) gX7_settle_X7_noteAt (n := 2) (hw := rfl) (hrc := rfl) (hrs := rfl) (hd := by decide +kernel) (hR := ⟨Nat.le_of_ble_eq_true rfl, Nat.le_of_ble_eq_true rfl⟩) (hn := rfl) (hst := rfl) (hsum := Nat.le_of_ble_eq_true rfl) (hdg := dX7_settle_99) ?_
          rintro _ S9 ⟨rfl, e9⟩
          rw [e9]
          clear e9 S9
          refine g_at (pc2 := 102) rfl rfl (st2 := [vI (940 + 12 * n + 3), .ref (gw_ad w 93), vL (V (570 + 12 * q + 8))]) rfl (S2 := (va_up S40 93 (AJ w 1200 (V1)))) rfl ?_
          refine g_lald (pc := 102) hX 93 (by omega) (up_eq _ _ _) (by omega) (by omega) (by decide) dX7_settle_102 ?_
          refine g_at rfl rfl (st2 := [vL (V (940 + 12 * n + 3)), vL (V (570 + 12 * q + 8))]) (by rw [show V1 (940 + 12 * n + 3) = V (940 + 12 * n + 3) from h1 _ (by omega)]) rfl ?_
          refine g_lsub (pc := 103) hX dX7_settle_103 ?_
          obtain ⟨bk, ebk⟩ : ∃ z : Int, z = (V (570 + 12 * q + 8)) - (V (940 + 12 * n + 3)) := ⟨_, rfl⟩
          refine g_at rfl rfl (st2 := [vL (bk)]) (by rw [ebk]) rfl ?_
          refine g_lstore (pc := 104) hX (lv2 := [(4, vL (bk)), (3, vI (q)), (0, .ref (gw_ad w 92)), (1, vI (n)), (2, vI (bz (ac)))]) (by decide) rfl dX7_settle_104 ?_
          refine g_aload_n (pc := 106) hX 2 rfl dX7_settle_106 ?_
          refine g_get (pc := 107) hX (ci := 7) (fun _ h => List.mem_cons_of_mem _ (List.mem_append_right _ h)) rfl 92 (by omega) (up_ne (by decide) m40_92) 0 (by decide) (List.mem_of_getElem? (i := 1) rfl) rfl (v := .ref (gw_ad w 93)) rfl dX7_settle_107 ?_
          refine g_iload_n (pc := 110) hX 1 rfl dX7_settle_110 ?_
          refine g_aload_n (pc := 111) hX 2 rfl dX7_settle_111 ?_
          refine g_get (pc := 112) hX (ci := 7) (fun _ h => List.mem_cons_of_mem _ (List.mem_append_right _ h)) rfl 92 (by omega) (up_ne (by decide) m40_92) 0 (by decide) (List.mem_of_getElem? (i := 1) rfl) rfl (v := .ref (gw_ad w 93)) rfl dX7_settle_112 ?_
          refine g_iload_n (pc := 115) hX 3 rfl dX7_settle_115 ?_
          refine g_iconst (pc := 116) hX dX7_settle_116 ?_
          refine g_callT1 (pc := 117) (As := [vI (n), vI (1)]) (st2 := [.ref (gw_ad w 93), vI (q), .ref (gw_ad w 93)]) hX (c_X7_noteAt (z := n) (k := 1)) gX7_settle_X7_noteAt (n := 2) (hw := rfl) (hrc := rfl) (hrs := rfl) (hd := by decide +kernel) (hR := ⟨Nat.le_of_ble_eq_true rfl, Nat.le_of_ble_eq_true rfl⟩) (hn := rfl) (hst := rfl) (hsum := Nat.le_of_ble_eq_true rfl) (hdg := dX7_settle_117) ?_
          rintro _ S9 ⟨rfl, e9⟩
          rw [e9]
          clear e9 S9
          refine g_at (pc2 := 120) rfl rfl (st2 := [vI (940 + 12 * n + 1), .ref (gw_ad w 93), vI (q), .ref (gw_ad w 93)]) rfl (S2 := (va_up S40 93 (AJ w 1200 (V1)))) rfl ?_
          refine g_lald (pc := 120) hX 93 (by omega) (up_eq _ _ _) (by omega) (by omega) (by decide) dX7_settle_120 ?_
          refine g_at rfl rfl (st2 := [vL (V (940 + 12 * n + 1)), vI (q), .ref (gw_ad w 93)]) (by rw [show V1 (940 + 12 * n + 1) = V (940 + 12 * n + 1) from h1 _ (by omega)]) rfl ?_
          refine g_l2i (pc := 121) hX dX7_settle_121 ?_
          obtain ⟨r, er⟩ : ∃ z : Int, z = V (940 + 12 * n + 1) := ⟨_, rfl⟩
          refine g_at rfl rfl (st2 := [vI (r), vI (q), .ref (gw_ad w 93)]) (by rw [er]) rfl ?_
          have hr : 0 ≤ r ∧ r ≤ 3 := by rw [er]; omega
          refine g_callT1 (pc := 122) (As := [vI (q), vI (r)]) (st2 := [.ref (gw_ad w 93)]) hX (c_X7_parcelAt (z := q) (k := r)) gX7_settle_X7_parcelAt (n := 2) (hw := rfl) (hrc := rfl) (hrs := rfl) (hd := by decide +kernel) (hR := ⟨Nat.le_of_ble_eq_true rfl, Nat.le_of_ble_eq_true rfl⟩) (hn := rfl) (hst := rfl) (hsum := Nat.le_of_ble_eq_true rfl) (hdg := dX7_settle_122) ?_
          rintro _ S9 ⟨rfl, e9⟩
          rw [e9]
          clear e9 S9
          refine g_at (pc2 := 125) rfl rfl (st2 := [vI (570 + 12 * q + r), .ref (gw_ad w 93)]) rfl (S2 := (va_up S40 93 (AJ w 1200 (V1)))) rfl ?_
          refine g_aload_n (pc := 125) hX 2 rfl dX7_settle_125 ?_
          refine g_get (pc := 126) hX (ci := 7) (fun _ h => List.mem_cons_of_mem _ (List.mem_append_right _ h)) rfl 92 (by omega) (up_ne (by decide) m40_92) 0 (by decide) (List.mem_of_getElem? (i := 1) rfl) rfl (v := .ref (gw_ad w 93)) rfl dX7_settle_126 ?_
          refine g_iload_n (pc := 129) hX 3 rfl dX7_settle_129 ?_
          refine g_iconst (pc := 130) hX dX7_settle_130 ?_
          refine g_callT1 (pc := 131) (As := [vI (n), vI (2)]) (st2 := [.ref (gw_ad w 93), vI (570 + 12 * q + r), .ref (gw_ad w 93)]) hX (c_X7_noteAt (z := n) (k := 2)) gX7_settle_X7_noteAt (n := 2) (hw := rfl) (hrc := rfl) (hrs := rfl) (hd := by decide +kernel) (hR := ⟨Nat.le_of_ble_eq_true rfl, Nat.le_of_ble_eq_true rfl⟩) (hn := rfl) (hst := rfl) (hsum := Nat.le_of_ble_eq_true rfl) (hdg := dX7_settle_131) ?_
          rintro _ S9 ⟨rfl, e9⟩
          rw [e9]
          clear e9 S9
          refine g_at (pc2 := 134) rfl rfl (st2 := [vI (940 + 12 * n + 2), .ref (gw_ad w 93), vI (570 + 12 * q + r), .ref (gw_ad w 93)]) rfl (S2 := (va_up S40 93 (AJ w 1200 (V1)))) rfl ?_
          refine g_lald (pc := 134) hX 93 (by omega) (up_eq _ _ _) (by omega) (by omega) (by decide) dX7_settle_134 ?_
          refine g_at rfl rfl (st2 := [vL (V (940 + 12 * n + 2)), vI (570 + 12 * q + r), .ref (gw_ad w 93)]) (by rw [show V1 (940 + 12 * n + 2) = V (940 + 12 * n + 2) from h1 _ (by omega)]) rfl ?_
          refine g_last (pc := 135) hX 93 (by omega) (up_eq _ _ _) (by omega) (by omega) (by decide) dX7_settle_135 ?_
          refine g_at rfl rfl rfl (S2 := (va_up (va_up S40 93 (AJ w 1200 (V1))) 93 (AJ w 1200 (updZ (V1) (570 + 12 * q + r) (V (940 + 12 * n + 2)))))) rfl ?_
          obtain ⟨V2, eV2⟩ : ∃ f : Int → Int, f = updZ (V1) (570 + 12 * q + r) (V (940 + 12 * n + 2)) := ⟨_, rfl⟩
          refine g_at rfl rfl rfl (S2 := (va_up (va_up S40 93 (AJ w 1200 (V1))) 93 (AJ w 1200 (V2)))) (by rw [eV2]) ?_
          have h2 : ∀ j, j < 570 ∨ 940 ≤ j → j ≠ 940 + 12 * n + 4 → V2 j = V j := fun j a b => by rw [eV2, updZ_ne _ _ (by omega)]; exact h1 j b
          refine g_aload_n (pc := 136) hX 2 rfl dX7_settle_136 ?_
          refine g_get (pc := 137) hX (ci := 7) (fun _ h => List.mem_cons_of_mem _ (List.mem_append_right _ h)) rfl 92 (by omega) (up_ne (by decide) (up_ne (by decide) m40_92)) 0 (by decide) (List.mem_of_getElem? (i := 1) rfl) rfl (v := .ref (gw_ad w 93)) rfl dX7_settle_137 ?_
          refine g_iload_n (pc := 140) hX 1 rfl dX7_settle_140 ?_
          refine g_bipush (pc := 141) hX (by decide) dX7_settle_141 ?_
          refine g_callT1 (pc := 143) (As := [vI (q), vI (8)]) (st2 := [.ref (gw_ad w 93)]) hX (c_X7_parcelAt (z := q) (k := 8)) gX7_settle_X7_parcelAt (n := 2) (hw := rfl) (hrc := rfl) (hrs := rfl) (hd := by decide +kernel) (hR := ⟨Nat.le_of_ble_eq_true rfl, Nat.le_of_ble_eq_true rfl⟩) (hn := rfl) (hst := rfl) (hsum := Nat.le_of_ble_eq_true rfl) (hdg := dX7_settle_143) ?_
          rintro _ S9 ⟨rfl, e9⟩
          rw [e9]
          clear e9 S9
          refine g_at (pc2 := 146) rfl rfl (st2 := [vI (570 + 12 * q + 8), .ref (gw_ad w 93)]) rfl (S2 := (va_up (va_up S40 93 (AJ w 1200 (V1))) 93 (AJ w 1200 (V2)))) rfl ?_
          refine g_aload_n (pc := 146) hX 2 rfl dX7_settle_146 ?_
          refine g_get (pc := 147) hX (ci := 7) (fun _ h => List.mem_cons_of_mem _ (List.mem_append_right _ h)) rfl 92 (by omega) (up_ne (by decide) (up_ne (by decide) m40_92)) 0 (by decide) (List.mem_of_getElem? (i := 1) rfl) rfl (v := .ref (gw_ad w 93)) rfl dX7_settle_147 ?_
          refine g_iload_n (pc := 150) hX 3 rfl dX7_settle_150 ?_
          refine g_iconst (pc := 151) hX dX7_settle_151 ?_
          refine g_callT1 (pc := 152) (As := [vI (n), vI (3)]) (st2 := [.ref (gw_ad w 93), vI (570 + 12 * q + 8), .ref (gw_ad w 93)]) hX (c_X7_noteAt (z := n) (k := 3)) gX7_settle_X7_noteAt (n := 2) (hw := rfl) (hrc := rfl) (hrs := rfl) (hd := by decide +kernel) (hR := ⟨Nat.le_of_ble_eq_true rfl, Nat.le_of_ble_eq_true rfl⟩) (hn := rfl) (hst := rfl) (hsum := Nat.le_of_ble_eq_true rfl) (hdg := dX7_settle_152) ?_
          rintro _ S9 ⟨rfl, e9⟩
          rw [e9]
          clear e9 S9
          refine g_at (pc2 := 155) rfl rfl (st2 := [vI (940 + 12 * n + 3), .ref (gw_ad w 93), vI (570 + 12 * q + 8), .ref (gw_ad w 93)]) rfl (S2 := (va_up (va_up S40 93 (AJ w 1200 (V1))) 93 (AJ w 1200 (V2)))) rfl ?_
          refine g_lald (pc := 155) hX 93 (by omega) (up_eq _ _ _) (by omega) (by omega) (by decide) dX7_settle_155 ?_
          refine g_at rfl rfl (st2 := [vL (V (940 + 12 * n + 3)), vI (570 + 12 * q + 8), .ref (gw_ad w 93)]) (by rw [show V2 (940 + 12 * n + 3) = V (940 + 12 * n + 3) from h2 _ (by omega) (by omega)]) rfl ?_
          refine g_last (pc := 156) hX 93 (by omega) (up_eq _ _ _) (by omega) (by omega) (by decide) dX7_settle_156 ?_
          refine g_at rfl rfl rfl (S2 := (va_up (va_up (va_up S40 93 (AJ w 1200 (V1))) 93 (AJ w 1200 (V2))) 93 (AJ w 1200 (updZ (V2) (570 + 12 * q + 8) (V (940 + 12 * n + 3)))))) rfl ?_
          obtain ⟨V3, eV3⟩ : ∃ f : Int → Int, f = updZ (V2) (570 + 12 * q + 8) (V (940 + 12 * n + 3)) := ⟨_, rfl⟩
          refine g_at rfl rfl rfl (S2 := (va_up (va_up (va_up S40 93 (AJ w 1200 (V1))) 93 (AJ w 1200 (V2))) 93 (AJ w 1200 (V3)))) (by rw [eV3]) ?_
          have h3 : ∀ j, j < 570 ∨ 940 ≤ j → j ≠ 940 + 12 * n + 4 → V3 j = V j := fun j a b => by rw [eV3, updZ_ne _ _ (by omega)]; exact h2 j a b
          refine g_aload_n (pc := 157) hX 2 rfl dX7_settle_157 ?_
          refine g_get (pc := 158) hX (ci := 7) (fun _ h => List.mem_cons_of_mem _ (List.mem_append_right _ h)) rfl 92 (by omega) (up_ne (by decide) (up_ne (by decide) (up_ne (by decide) m40_92))) 0 (by decide) (List.mem_of_getElem? (i := 1) rfl) rfl (v := .ref (gw_ad w 93)) rfl dX7_settle_158 ?_
          refine g_iload_n (pc := 161) hX 1 rfl dX7_settle_161 ?_
          refine g_iconst (pc := 162) hX dX7_settle_162 ?_
          refine g_callT1 (pc := 163) (As := [vI (q), vI (5)]) (st2 := [.ref (gw_ad w 93)]) hX (c_X7_parcelAt (z := q) (k := 5)) gX7_settle_X7_parcelAt (n := 2) (hw := rfl) (hrc := rfl) (hrs := rfl) (hd := by decide +kernel) (hR := ⟨Nat.le_of_ble_eq_true rfl, Nat.le_of_ble_eq_true rfl⟩) (hn := rfl) (hst := rfl) (hsum := Nat.le_of_ble_eq_true rfl) (hdg := dX7_settle_163) ?_
          rintro _ S9 ⟨rfl, e9⟩
          rw [e9]
          clear e9 S9
          refine g_at (pc2 := 166) rfl rfl (st2 := [vI (570 + 12 * q + 5), .ref (gw_ad w 93)]) rfl (S2 := (va_up (va_up (va_up S40 93 (AJ w 1200 (V1))) 93 (AJ w 1200 (V2))) 93 (AJ w 1200 (V3)))) rfl ?_
          refine g_aload_n (pc := 166) hX 2 rfl dX7_settle_166 ?_
          refine g_get (pc := 167) hX (ci := 7) (fun _ h => List.mem_cons_of_mem _ (List.mem_append_right _ h)) rfl 92 (by omega) (up_ne (by decide) (up_ne (by decide) (up_ne (by decide) m40_92))) 0 (by decide) (List.mem_of_getElem? (i := 1) rfl) rfl (v := .ref (gw_ad w 93)) rfl dX7_settle_167 ?_
          refine g_iload_n (pc := 170) hX 3 rfl dX7_settle_170 ?_
          refine g_bipush (pc := 171) hX (by decide) dX7_settle_171 ?_
          refine g_callT1 (pc := 173) (As := [vI (n), vI (6)]) (st2 := [.ref (gw_ad w 93), vI (570 + 12 * q + 5), .ref (gw_ad w 93)]) hX (c_X7_noteAt (z := n) (k := 6)) gX7_settle_X7_noteAt (n := 2) (hw := rfl) (hrc := rfl) (hrs := rfl) (hd := by decide +kernel) (hR := ⟨Nat.le_of_ble_eq_true rfl, Nat.le_of_ble_eq_true rfl⟩) (hn := rfl) (hst := rfl) (hsum := Nat.le_of_ble_eq_true rfl) (hdg := dX7_settle_173) ?_
          rintro _ S9 ⟨rfl, e9⟩
          rw [e9]
          clear e9 S9
          refine g_at (pc2 := 176) rfl rfl (st2 := [vI (940 + 12 * n + 6), .ref (gw_ad w 93), vI (570 + 12 * q + 5), .ref (gw_ad w 93)]) rfl (S2 := (va_up (va_up (va_up S40 93 (AJ w 1200 (V1))) 93 (AJ w 1200 (V2))) 93 (AJ w 1200 (V3)))) rfl ?_
          refine g_lald (pc := 176) hX 93 (by omega) (up_eq _ _ _) (by omega) (by omega) (by decide) dX7_settle_176 ?_
          refine g_at rfl rfl (st2 := [vL (V (940 + 12 * n + 6)), vI (570 + 12 * q + 5), .ref (gw_ad w 93)]) (by rw [show V3 (940 + 12 * n + 6) = V (940 + 12 * n + 6) from h3 _ (by omega) (by omega)]) rfl ?_
          refine g_last (pc := 177) hX 93 (by omega) (up_eq _ _ _) (by omega) (by omega) (by decide) dX7_settle_177 ?_
          refine g_at rfl rfl rfl (S2 := (va_up (va_up (va_up (va_up S40 93 (AJ w 1200 (V1))) 93 (AJ w 1200 (V2))) 93 (AJ w 1200 (V3))) 93 (AJ w 1200 (updZ (V3) (570 + 12 * q + 5) (V (940 + 12 * n + 6)))))) rfl ?_
          obtain ⟨V4, eV4⟩ : ∃ f : Int → Int, f = updZ (V3) (570 + 12 * q + 5) (V (940 + 12 * n + 6)) := ⟨_, rfl⟩
          refine g_at rfl rfl rfl (S2 := (va_up (va_up (va_up (va_up S40 93 (AJ w 1200 (V1))) 93 (AJ w 1200 (V2))) 93 (AJ w 1200 (V3))) 93 (AJ w 1200 (V4)))) (by rw [eV4]) ?_
          have h4 : ∀ j, j < 570 ∨ 940 ≤ j → j ≠ 940 + 12 * n + 4 → V4 j = V j := fun j a b => by rw [eV4, updZ_ne _ _ (by omega)]; exact h3 j a b
          refine g_aload_n (pc := 178) hX 2 rfl dX7_settle_178 ?_
          refine g_get (pc := 179) hX (ci := 7) (fun _ h => List.mem_cons_of_mem _ (List.mem_append_right _ h)) rfl 92 (by omega) (up_ne (by decide) (up_ne (by decide) (up_ne (by decide) (up_ne (by decide) m40_92)))) 0 (by decide) (List.mem_of_getElem? (i := 1) rfl) rfl (v := .ref (gw_ad w 93)) rfl dX7_settle_179 ?_
          refine g_iload_n (pc := 182) hX 1 rfl dX7_settle_182 ?_
          refine g_bipush (pc := 183) hX (by decide) dX7_settle_183 ?_
          refine g_callT1 (pc := 185) (As := [vI (q), vI (6)]) (st2 := [.ref (gw_ad w 93)]) hX (c_X7_parcelAt (z := q) (k := 6)) gX7_settle_X7_parcelAt (n := 2) (hw := rfl) (hrc := rfl) (hrs := rfl) (hd := by decide +kernel) (hR := ⟨Nat.le_of_ble_eq_true rfl, Nat.le_of_ble_eq_true rfl⟩) (hn := rfl) (hst := rfl) (hsum := Nat.le_of_ble_eq_true rfl) (hdg := dX7_settle_185) ?_
          rintro _ S9 ⟨rfl, e9⟩
          rw [e9]
          clear e9 S9
          refine g_at (pc2 := 188) rfl rfl (st2 := [vI (570 + 12 * q + 6), .ref (gw_ad w 93)]) rfl (S2 := (va_up (va_up (va_up (va_up S40 93 (AJ w 1200 (V1))) 93 (AJ w 1200 (V2))) 93 (AJ w 1200 (V3))) 93 (AJ w 1200 (V4)))) rfl ?_
          refine g_aload_n (pc := 188) hX 2 rfl dX7_settle_188 ?_
          refine g_get (pc := 189) hX (ci := 7) (fun _ h => List.mem_cons_of_mem _ (List.mem_append_right _ h)) rfl 92 (by omega) (up_ne (by decide) (up_ne (by decide) (up_ne (by decide) (up_ne (by decide) m40_92)))) 0 (by decide) (List.mem_of_getElem? (i := 1) rfl) rfl (v := .ref (gw_ad w 93)) rfl dX7_settle_189 ?_
          refine g_iload_n (pc := 192) hX 3 rfl dX7_settle_192 ?_
          refine g_bipush (pc := 193) hX (by decide) dX7_settle_193 ?_
          refine g_callT1 (pc := 195) (As := [vI (n), vI (7)]) (st2 := [.ref (gw_ad w 93), vI (570 + 12 * q + 6), .ref (gw_ad w 93)]) hX (c_X7_noteAt (z := n) (k := 7)) gX7_settle_X7_noteAt (n := 2) (hw := rfl) (hrc := rfl) (hrs := rfl) (hd := by decide +kernel) (hR := ⟨Nat.le_of_ble_eq_true rfl, Nat.le_of_ble_eq_true rfl⟩) (hn := rfl) (hst := rfl) (hsum := Nat.le_of_ble_eq_true rfl) (hdg := dX7_settle_195) ?_
          rintro _ S9 ⟨rfl, e9⟩
          rw [e9]
          clear e9 S9
          refine g_at (pc2 := 198) rfl rfl (st2 := [vI (940 + 12 * n + 7), .ref (gw_ad w 93), vI (570 + 12 * q + 6), .ref (gw_ad w 93)]) rfl (S2 := (va_up (va_up (va_up (va_up S40 93 (AJ w 1200 (V1))) 93 (AJ w 1200 (V2))) 93 (AJ w 1200 (V3))) 93 (AJ w 1200 (V4)))) rfl ?_
          refine g_lald (pc := 198) hX 93 (by omega) (up_eq _ _ _) (by omega) (by omega) (by decide) dX7_settle_198 ?_
          refine g_at rfl rfl (st2 := [vL (V (940 + 12 * n + 7)), vI (570 + 12 * q + 6), .ref (gw_ad w 93)]) (by rw [show V4 (940 + 12 * n + 7) = V (940 + 12 * n + 7) from h4 _ (by omega) (by omega)]) rfl ?_
          refine g_last (pc := 199) hX 93 (by omega) (up_eq _ _ _) (by omega) (by omega) (by decide) dX7_settle_199 ?_
          refine g_at rfl rfl rfl (S2 := (va_up (va_up (va_up (va_up (va_up S40 93 (AJ w 1200 (V1))) 93 (AJ w 1200 (V2))) 93 (AJ w 1200 (V3))) 93 (AJ w 1200 (V4))) 93 (AJ w 1200 (updZ (V4) (570 + 12 * q + 6) (V (940 + 12 * n + 7)))))) rfl ?_
          obtain ⟨V5, eV5⟩ : ∃ f : Int → Int, f = updZ (V4) (570 + 12 * q + 6) (V (940 + 12 * n + 7)) := ⟨_, rfl⟩
          refine g_at rfl rfl rfl (S2 := (va_up (va_up (va_up (va_up (va_up S40 93 (AJ w 1200 (V1))) 93 (AJ w 1200 (V2))) 93 (AJ w 1200 (V3))) 93 (AJ w 1200 (V4))) 93 (AJ w 1200 (V5)))) (by rw [eV5]) ?_
          have h5 : ∀ j, j < 570 ∨ 940 ≤ j → j ≠ 940 + 12 * n + 4 → V5 j = V j := fun j a b => by rw [eV5, updZ_ne _ _ (by omega)]; exact h4 j a b
          refine g_aload_n (pc := 200) hX 2 rfl dX7_settle_200 ?_
          refine g_get (pc := 201) hX (ci := 7) (fun _ h => List.mem_cons_of_mem _ (List.mem_append_right _ h)) rfl 92 (by omega) (up_ne (by decide) (up_ne (by decide) (up_ne (by decide) (up_ne (by decide) (up_ne (by decide) m40_92))))) 0 (by decide) (List.mem_of_getElem? (i := 1) rfl) rfl (v := .ref (gw_ad w 93)) rfl dX7_settle_201 ?_
          refine g_iload_n (pc := 204) hX 1 rfl dX7_settle_204 ?_
          refine g_bipush (pc := 205) hX (by decide) dX7_settle_205 ?_
          refine g_callT1 (pc := 207) (As := [vI (q), vI (7)]) (st2 := [.ref (gw_ad w 93)]) hX (c_X7_parcelAt (z := q) (k := 7)) gX7_settle_X7_parcelAt (n := 2) (hw := rfl) (hrc := rfl) (hrs := rfl) (hd := by decide +kernel) (hR := ⟨Nat.le_of_ble_eq_true rfl, Nat.le_of_ble_eq_true rfl⟩) (hn := rfl) (hst := rfl) (hsum := Nat.le_of_ble_eq_true rfl) (hdg := dX7_settle_207) ?_
          rintro _ S9 ⟨rfl, e9⟩
          rw [e9]
          clear e9 S9
          refine g_at (pc2 := 210) rfl rfl (st2 := [vI (570 + 12 * q + 7), .ref (gw_ad w 93)]) rfl (S2 := (va_up (va_up (va_up (va_up (va_up S40 93 (AJ w 1200 (V1))) 93 (AJ w 1200 (V2))) 93 (AJ w 1200 (V3))) 93 (AJ w 1200 (V4))) 93 (AJ w 1200 (V5)))) rfl ?_
          refine g_aload_n (pc := 210) hX 2 rfl dX7_settle_210 ?_
          refine g_get (pc := 211) hX (ci := 7) (fun _ h => List.mem_cons_of_mem _ (List.mem_append_right _ h)) rfl 92 (by omega) (up_ne (by decide) (up_ne (by decide) (up_ne (by decide) (up_ne (by decide) (up_ne (by decide) m40_92))))) 0 (by decide) (List.mem_of_getElem? (i := 1) rfl) rfl (v := .ref (gw_ad w 93)) rfl dX7_settle_211 ?_
          refine g_iload_n (pc := 214) hX 3 rfl dX7_settle_214 ?_
          refine g_bipush (pc := 215) hX (by decide) dX7_settle_215 ?_
          refine g_callT1 (pc := 217) (As := [vI (n), vI (8)]) (st2 := [.ref (gw_ad w 93), vI (570 + 12 * q + 7), .ref (gw_ad w 93)]) hX (c_X7_noteAt (z := n) (k := 8)) gX7_settle_X7_noteAt (n := 2) (hw := rfl) (hrc := rfl) (hrs := rfl) (hd := by decide +kernel) (hR := ⟨Nat.le_of_ble_eq_true rfl, Nat.le_of_ble_eq_true rfl⟩) (hn := rfl) (hst := rfl) (hsum := Nat.le_of_ble_eq_true rfl) (hdg := dX7_settle_217) ?_
          rintro _ S9 ⟨rfl, e9⟩
          rw [e9]
          clear e9 S9
          refine g_at (pc2 := 220) rfl rfl (st2 := [vI (940 + 12 * n + 8), .ref (gw_ad w 93), vI (570 + 12 * q + 7), .ref (gw_ad w 93)]) rfl (S2 := (va_up (va_up (va_up (va_up (va_up S40 93 (AJ w 1200 (V1))) 93 (AJ w 1200 (V2))) 93 (AJ w 1200 (V3))) 93 (AJ w 1200 (V4))) 93 (AJ w 1200 (V5)))) rfl ?_
          refine g_lald (pc := 220) hX 93 (by omega) (up_eq _ _ _) (by omega) (by omega) (by decide) dX7_settle_220 ?_
          refine g_at rfl rfl (st2 := [vL (V (940 + 12 * n + 8)), vI (570 + 12 * q + 7), .ref (gw_ad w 93)]) (by rw [show V5 (940 + 12 * n + 8) = V (940 + 12 * n + 8) from h5 _ (by omega) (by omega)]) rfl ?_
          refine g_last (pc := 221) hX 93 (by omega) (up_eq _ _ _) (by omega) (by omega) (by decide) dX7_settle_221 ?_
          refine g_at rfl rfl rfl (S2 := (va_up (va_up (va_up (va_up (va_up (va_up S40 93 (AJ w 1200 (V1))) 93 (AJ w 1200 (V2))) 93 (AJ w 1200 (V3))) 93 (AJ w 1200 (V4))) 93 (AJ w 1200 (V5))) 93 (AJ w 1200 (updZ (V5) (570 + 12 * q + 7) (V (940 + 12 * n + 8)))))) rfl ?_
          obtain ⟨V6, eV6⟩ : ∃ f : Int → Int, f = updZ (V5) (570 + 12 * q + 7) (V (940 + 12 * n + 8)) := ⟨_, rfl⟩
          refine g_at rfl rfl rfl (S2 := (va_up (va_up (va_up (va_up (va_up (va_up S40 93 (AJ w 1200 (V1))) 93 (AJ w 1200 (V2))) 93 (AJ w 1200 (V3))) 93 (AJ w 1200 (V4))) 93 (AJ w 1200 (V5))) 93 (AJ w 1200 (V6)))) (by rw [eV6]) ?_
          have h6 : ∀ j, j < 570 ∨ 940 ≤ j → j ≠ 940 + 12 * n + 4 → V6 j = V j := fun j a b => by rw [eV6, updZ_ne _ _ (by omega)]; exact h5 j a b
          refine g_iconst (pc := 222) hX dX7_settle_222 ?_
          refine g_istore (pc := 223) hX (lv2 := [(6, vI (0)), (4, vL (bk)), (3, vI (q)), (0, .ref (gw_ad w 92)), (1, vI (n)), (2, vI (bz (ac)))]) (by decide) rfl dX7_settle_223 ?_
          have lk : ∀ (n0 : Nat) (k : Int), 0 ≤ k → k ≤ 3 → 3 - k < n0 → G w { frames := 1, cells := 0, slots := 0, locals := 25 } X 7 225 [(6, vI (k)), (0, .ref (gw_ad w 92)), (1, vI (n)), (3, vI (q)), (4, vL (bk))] [] (va_up (va_up (va_up (va_up (va_up (va_up (va_up S40 93 (AJ w 1200 (V1))) 93 (AJ w 1200 (V2))) 93 (AJ w 1200 (V3))) 93 (AJ w 1200 (V4))) 93 (AJ w 1200 (V5))) 93 (AJ w 1200 (V6))) 93 (AJ w 1200 (actW V6 (fun i => V (940 + 12 * n + (9 + i))) (570 + 12 * q + 9) k))) := by
            intro n0
            induction n0 with
            | zero => intro k  h1k h2k h3k; exact absurd h3k (by omega)
            | succ n0 ihlk =>
              intro k  h1k h2k h3k 
              have hk : inI k := inI_mk (by omega) (by omega)
              refine g_iload (pc := 225) hX 0 rfl dX7_settle_225 ?_
              refine g_iconst (pc := 227) hX dX7_settle_227 ?_
              refine g_icmp_ge (pc := 228) (tgt := 265) hX (by first | assumption | exact inI_mk (by omega) (by omega)) (by first | assumption | exact inI_mk (by omega) (by omega)) dX7_settle_228 (by decide) (fun c_228 => ?_) (fun c_228 => ?_)
              · skip
                refine g_aload_n (pc := 265) hX 1 rfl dX7_settle_265 ?_
                refine g_get (pc := 266) hX (ci := 7) (fun _ h => List.mem_cons_of_mem _ (List.mem_append_right _ h)) rfl 92 (by omega) (up_ne (by decide) (up_ne (by decide) (up_ne (by decide) (up_ne (by decide) (up_ne (by decide) (up_ne (by decide) (up_ne (by decide) m40_92))))))) 0 (by decide) (List.mem_of_getElem? (i := 1) rfl) rfl (v := .ref (gw_ad w 93)) rfl dX7_settle_266 ?_
                refine g_iload_n (pc := 269) hX 2 rfl dX7_settle_269 ?_
                refine g_iconst (pc := 270) hX dX7_settle_270 ?_
                refine g_callT1 (pc := 271) (As := [vI (n), vI (5)]) (st2 := [.ref (gw_ad w 93)]) hX (c_X7_noteAt (z := n) (k := 5)) gX7_settle_X7_noteAt (n := 2) (hw := rfl) (hrc := rfl) (hrs := rfl) (hd := by decide +kernel) (hR := ⟨Nat.le_of_ble_eq_true rfl, Nat.le_of_ble_eq_true rfl⟩) (hn := rfl) (hst := rfl) (hsum := Nat.le_of_ble_eq_true rfl) (hdg := dX7_settle_271) ?_
                rintro _ S9 ⟨rfl, e9⟩
                rw [e9]
                clear e9 S9
                refine g_at (pc2 := 274) rfl rfl (st2 := [vI (940 + 12 * n + 5), .ref (gw_ad w 93)]) rfl (S2 := (va_up (va_up (va_up (va_up (va_up (va_up (va_up S40 93 (AJ w 1200 (V1))) 93 (AJ w 1200 (V2))) 93 (AJ w 1200 (V3))) 93 (AJ w 1200 (V4))) 93 (AJ w 1200 (V5))) 93 (AJ w 1200 (V6))) 93 (AJ w 1200 (actW V6 (fun i => V (940 + 12 * n + (9 + i))) (570 + 12 * q + 9) k)))) rfl ?_
                refine g_lload (pc := 274) hX 4 rfl dX7_settle_274 ?_
                refine g_last (pc := 276) hX 93 (by omega) (up_eq _ _ _) (by omega) (by omega) (by decide) dX7_settle_276 ?_
                refine g_at rfl rfl rfl (S2 := (va_up (va_up (va_up (va_up (va_up (va_up (va_up (va_up S40 93 (AJ w 1200 (V1))) 93 (AJ w 1200 (V2))) 93 (AJ w 1200 (V3))) 93 (AJ w 1200 (V4))) 93 (AJ w 1200 (V5))) 93 (AJ w 1200 (V6))) 93 (AJ w 1200 (actW V6 (fun i => V (940 + 12 * n + (9 + i))) (570 + 12 * q + 9) k))) 93 (AJ w 1200 (updZ (actW V6 (fun i => V (940 + 12 * n + (9 + i))) (570 + 12 * q + 9) k) (940 + 12 * n + 5) (bk))))) rfl ?_
                refine g_aload_n (pc := 277) hX 1 rfl dX7_settle_277 ?_
                refine g_get (pc := 278) hX (ci := 7) (fun _ h => List.mem_cons_of_mem _ (List.mem_append_right _ h)) rfl 92 (by omega) (up_ne (by decide) (up_ne (by decide) (up_ne (by decide) (up_ne (by decide) (up_ne (by decide) (up_ne (by decide) (up_ne (by decide) (up_ne (by decide) m40_92)))))))) 0 (by decide) (List.mem_of_getElem? (i := 1) rfl) rfl (v := .ref (gw_ad w 93)) rfl dX7_settle_278 ?_
                refine g_bipush (pc := 281) hX (by decide) dX7_settle_281 ?_
                refine g_dup2 (pc := 283) hX rfl rfl dX7_settle_283 ?_
                refine g_lald (pc := 284) hX 93 (by omega) (up_eq _ _ _) (by omega) (by omega) (by decide) dX7_settle_284 ?_
                refine g_at rfl rfl (st2 := [vL (V 21), vI (21), .ref (gw_ad w 93)]) (by rw [show (updZ (actW V6 (fun i => V (940 + 12 * n + (9 + i))) (570 + 12 * q + 9) k) (940 + 12 * n + 5) (bk)) 21 = V 21 from by rw [updZ_ne _ _ (by omega)]; unfold actW; rw [if_neg (by omega)]; exact h6 _ (by omega) (by omega)]) rfl ?_
                refine g_lload (pc := 285) hX 4 rfl dX7_settle_285 ?_
                refine g_ladd (pc := 287) hX dX7_settle_287 ?_
                refine g_last (pc := 288) hX 93 (by omega) (up_eq _ _ _) (by omega) (by omega) (by decide) dX7_settle_288 ?_
                refine g_at rfl rfl rfl (S2 := (va_up (va_up (va_up (va_up (va_up (va_up (va_up (va_up (va_up S40 93 (AJ w 1200 (V1))) 93 (AJ w 1200 (V2))) 93 (AJ w 1200 (V3))) 93 (AJ w 1200 (V4))) 93 (AJ w 1200 (V5))) 93 (AJ w 1200 (V6))) 93 (AJ w 1200 (actW V6 (fun i => V (940 + 12 * n + (9 + i))) (570 + 12 * q + 9) k))) 93 (AJ w 1200 (updZ (actW V6 (fun i => V (940 + 12 * n + (9 + i))) (570 + 12 * q + 9) k) (940 + 12 * n + 5) (bk)))) 93 (AJ w 1200 (updZ (updZ (actW V6 (fun i => V (940 + 12 * n + (9 + i))) (570 + 12 * q + 9) k) (940 + 12 * n + 5) (bk)) (21) ((V 21) + bk))))) rfl ?_
                refine g_lload (pc := 289) hX 4 rfl dX7_settle_289 ?_
                refine g_l2i (pc := 291) hX dX7_settle_291 ?_
                refine g_iret (pc := 292) hX hR dX7_settle_292 ?_
                try simp only [decide_eq_true_eq, decide_eq_false_iff_not] at c_228
                have hk3 : k = 3 := by omega
                subst hk3
                subst eV6
                subst eV5
                subst eV4
                subst eV3
                subst eV2
                subst eV1
                subst ebk
                subst er
                subst eq
                exact (if_pos (by omega)).mpr ((if_pos (by omega)).mpr ((if_pos (c_53)).mpr (⟨rfl, ⟨⟨⟨(up_ne (by decide) (up_ne (by decide) (up_ne (by decide) (up_ne (by decide) (up_ne (by decide) (up_ne (by decide) (up_ne (by decide) (up_ne (by decide) (up_ne (by decide) m40_92))))))))), (up_eq _ _ _), (up_ne (by decide) (up_ne (by decide) (up_ne (by decide) (up_ne (by decide) (up_ne (by decide) (up_ne (by decide) (up_ne (by decide) (up_ne (by decide) (up_ne (by decide) m40_94)))))))))⟩, ⟨(up_ne (by decide) (up_ne (by decide) (up_ne (by decide) (up_ne (by decide) (up_ne (by decide) (up_ne (by decide) (up_ne (by decide) (up_ne (by decide) (up_ne (by decide) m40_95))))))))), (up_ne (by decide) (up_ne (by decide) (up_ne (by decide) (up_ne (by decide) (up_ne (by decide) (up_ne (by decide) (up_ne (by decide) (up_ne (by decide) (up_ne (by decide) m40_96)))))))))⟩, ⟨(up_ne (by decide) (up_ne (by decide) (up_ne (by decide) (up_ne (by decide) (up_ne (by decide) (up_ne (by decide) (up_ne (by decide) (up_ne (by decide) (up_ne (by decide) m40_97))))))))), (up_ne (by decide) (up_ne (by decide) (up_ne (by decide) (up_ne (by decide) (up_ne (by decide) (up_ne (by decide) (up_ne (by decide) (up_ne (by decide) (up_ne (by decide) m40_98))))))))), (up_ne (by decide) (up_ne (by decide) (up_ne (by decide) (up_ne (by decide) (up_ne (by decide) (up_ne (by decide) (up_ne (by decide) (up_ne (by decide) (up_ne (by decide) m40_99))))))))), (up_ne (by decide) (up_ne (by decide) (up_ne (by decide) (up_ne (by decide) (up_ne (by decide) (up_ne (by decide) (up_ne (by decide) (up_ne (by decide) (up_ne (by decide) m40_100))))))))), (up_ne (by decide) (up_ne (by decide) (up_ne (by decide) (up_ne (by decide) (up_ne (by decide) (up_ne (by decide) (up_ne (by decide) (up_ne (by decide) (up_ne (by decide) m40_101)))))))))⟩, ⟨(up_ne (by decide) (up_ne (by decide) (up_ne (by decide) (up_ne (by decide) (up_ne (by decide) (up_ne (by decide) (up_ne (by decide) (up_ne (by decide) (up_ne (by decide) m40_102))))))))), (up_ne (by decide) (up_ne (by decide) (up_ne (by decide) (up_ne (by decide) (up_ne (by decide) (up_ne (by decide) (up_ne (by decide) (up_ne (by decide) (up_ne (by decide) m40_103))))))))), (up_ne (by decide) (up_ne (by decide) (up_ne (by decide) (up_ne (by decide) (up_ne (by decide) (up_ne (by decide) (up_ne (by decide) (up_ne (by decide) (up_ne (by decide) m40_104)))))))))⟩⟩, fun q hq => (up_ne (by omega) (up_ne (by omega) (up_ne (by omega) (up_ne (by omega) (up_ne (by omega) (up_ne (by omega) (up_ne (by omega) (up_ne (by omega) (up_ne (by omega) ((hP40.2 q hq).trans rfl))))))))))⟩⟩)))
              · skip
                refine g_aload_n (pc := 231) hX 1 rfl dX7_settle_231 ?_
                refine g_get (pc := 232) hX (ci := 7) (fun _ h => List.mem_cons_of_mem _ (List.mem_append_right _ h)) rfl 92 (by omega) (up_ne (by decide) (up_ne (by decide) (up_ne (by decide) (up_ne (by decide) (up_ne (by decide) (up_ne (by decide) (up_ne (by decide) m40_92))))))) 0 (by decide) (List.mem_of_getElem? (i := 1) rfl) rfl (v := .ref (gw_ad w 93)) rfl dX7_settle_232 ?_
                refine g_iload_n (pc := 235) hX 3 rfl dX7_settle_235 ?_
                refine g_bipush (pc := 236) hX (by decide) dX7_settle_236 ?_
                refine g_iload (pc := 238) hX 0 rfl dX7_settle_238 ?_
                refine g_iadd (pc := 240) hX dX7_settle_240 ?_
                refine g_callT1 (pc := 241) (As := [vI (q), vI (9 + k)]) (st2 := [.ref (gw_ad w 93)]) hX (c_X7_parcelAt (z := q) (k := 9 + k)) gX7_settle_X7_parcelAt (n := 2) (hw := rfl) (hrc := rfl) (hrs := rfl) (hd := by decide +kernel) (hR := ⟨Nat.le_of_ble_eq_true rfl, Nat.le_of_ble_eq_true rfl⟩) (hn := rfl) (hst := rfl) (hsum := Nat.le_of_ble_eq_true rfl) (hdg := dX7_settle_241) ?_
                rintro _ S9 ⟨rfl, e9⟩
                rw [e9]
                clear e9 S9
                refine g_at (pc2 := 244) rfl rfl (st2 := [vI (570 + 12 * q + (9 + k)), .ref (gw_ad w 93)]) rfl (S2 := (va_up (va_up (va_up (va_up (va_up (va_up (va_up S40 93 (AJ w 1200 (V1))) 93 (AJ w 1200 (V2))) 93 (AJ w 1200 (V3))) 93 (AJ w 1200 (V4))) 93 (AJ w 1200 (V5))) 93 (AJ w 1200 (V6))) 93 (AJ w 1200 (actW V6 (fun i => V (940 + 12 * n + (9 + i))) (570 + 12 * q + 9) k)))) rfl ?_
                refine g_aload_n (pc := 244) hX 1 rfl dX7_settle_244 ?_
                refine g_get (pc := 245) hX (ci := 7) (fun _ h => List.mem_cons_of_mem _ (List.mem_append_right _ h)) rfl 92 (by omega) (up_ne (by decide) (up_ne (by decide) (up_ne (by decide) (up_ne (by decide) (up_ne (by decide) (up_ne (by decide) (up_ne (by decide) m40_92))))))) 0 (by decide) (List.mem_of_getElem? (i := 1) rfl) rfl (v := .ref (gw_ad w 93)) rfl dX7_settle_245 ?_
                refine g_iload_n (pc := 248) hX 2 rfl dX7_settle_248 ?_
                refine g_bipush (pc := 249) hX (by decide) dX7_settle_249 ?_
                refine g_iload (pc := 251) hX 0 rfl dX7_settle_251 ?_
                refine g_iadd (pc := 253) hX dX7_settle_253 ?_
                refine g_callT1 (pc := 254) (As := [vI (n), vI (9 + k)]) (st2 := [.ref (gw_ad w 93), vI (570 + 12 * q + (9 + k)), .ref (gw_ad w 93)]) hX (c_X7_noteAt (z := n) (k := 9 + k)) gX7_settle_X7_noteAt (n := 2) (hw := rfl) (hrc := rfl) (hrs := rfl) (hd := by decide +kernel) (hR := ⟨Nat.le_of_ble_eq_true rfl, Nat.le_of_ble_eq_true rfl⟩) (hn := rfl) (hst := rfl) (hsum := Nat.le_of_ble_eq_true rfl) (hdg := dX7_settle_254) ?_
                rintro _ S9 ⟨rfl, e9⟩
                rw [e9]
                clear e9 S9
                refine g_at (pc2 := 257) rfl rfl (st2 := [vI (940 + 12 * n + (9 + k)), .ref (gw_ad w 93), vI (570 + 12 * q + (9 + k)), .ref (gw_ad w 93)]) rfl (S2 := (va_up (va_up (va_up (va_up (va_up (va_up (va_up S40 93 (AJ w 1200 (V1))) 93 (AJ w 1200 (V2))) 93 (AJ w 1200 (V3))) 93 (AJ w 1200 (V4))) 93 (AJ w 1200 (V5))) 93 (AJ w 1200 (V6))) 93 (AJ w 1200 (actW V6 (fun i => V (940 + 12 * n + (9 + i))) (570 + 12 * q + 9) k)))) rfl ?_
                refine g_lald (pc := 257) hX 93 (by omega) (up_eq _ _ _) (by omega) (by omega) (by decide) dX7_settle_257 ?_
                refine g_at rfl rfl (st2 := [vL (V (940 + 12 * n + (9 + k))), vI (570 + 12 * q + (9 + k)), .ref (gw_ad w 93)]) (by rw [show (actW V6 (fun i => V (940 + 12 * n + (9 + i))) (570 + 12 * q + 9) k) (940 + 12 * n + (9 + k)) = V (940 + 12 * n + (9 + k)) from by unfold actW; rw [if_neg (by omega)]; exact h6 _ (by omega) (by omega)]) rfl ?_
                refine g_last (pc := 258) hX 93 (by omega) (up_eq _ _ _) (by omega) (by omega) (by decide) dX7_settle_258 ?_
                refine g_at rfl rfl rfl (S2 := (va_up (va_up (va_up (va_up (va_up (va_up (va_up (va_up S40 93 (AJ w 1200 (V1))) 93 (AJ w 1200 (V2))) 93 (AJ w 1200 (V3))) 93 (AJ w 1200 (V4))) 93 (AJ w 1200 (V5))) 93 (AJ w 1200 (V6))) 93 (AJ w 1200 (actW V6 (fun i => V (940 + 12 * n + (9 + i))) (570 + 12 * q + 9) k))) 93 (AJ w 1200 (updZ (actW V6 (fun i => V (940 + 12 * n + (9 + i))) (570 + 12 * q + 9) k) (570 + 12 * q + (9 + k)) (V (940 + 12 * n + (9 + k))))))) rfl ?_
                refine g_iinc (pc := 259) hX (lv2 := [(6, vI (k + 1)), (0, .ref (gw_ad w 92)), (1, vI (n)), (3, vI (q)), (4, vL (bk))]) 0 rfl (by decide) rfl dX7_settle_259 ?_
                refine g_goto (pc := 262) (tgt := 225) hX dX7_settle_262 (by decide) ?_
                refine g_sub (lv2 := [(6, vI (k + 1)), (0, .ref (gw_ad w 92)), (1, vI (n)), (3, vI (q)), (4, vL (bk))]) [0, 1, 2, 3, 4] rfl ?_
                refine g_at rfl (lv2 := [(6, vI (k + 1)), (0, .ref (gw_ad w 92)), (1, vI (n)), (3, vI (q)), (4, vL (bk))]) (rfl) rfl (S2 := (va_up (va_up (va_up (va_up (va_up (va_up (va_up S40 93 (AJ w 1200 (V1))) 93 (AJ w 1200 (V2))) 93 (AJ w 1200 (V3))) 93 (AJ w 1200 (V4))) 93 (AJ w 1200 (V5))) 93 (AJ w 1200 (V6))) 93 (AJ w 1200 (actW V6 (fun i => V (940 + 12 * n + (9 + i))) (570 + 12 * q + 9) (k + 1))))) (by rw [up_up, act3_s h1k rfl]) ?_
                exact ihlk (k + 1)  (by omega) (by omega) (by omega) 
          refine g_sub (lv2 := [(6, vI (0)), (0, .ref (gw_ad w 92)), (1, vI (n)), (3, vI (q)), (4, vL (bk))]) [0, 3, 4, 2, 1] rfl ?_
          refine g_at rfl (lv2 := [(6, vI (0)), (0, .ref (gw_ad w 92)), (1, vI (n)), (3, vI (q)), (4, vL (bk))]) (rfl) rfl (S2 := (va_up (va_up (va_up (va_up (va_up (va_up (va_up S40 93 (AJ w 1200 (V1))) 93 (AJ w 1200 (V2))) 93 (AJ w 1200 (V3))) 93 (AJ w 1200 (V4))) 93 (AJ w 1200 (V5))) 93 (AJ w 1200 (V6))) 93 (AJ w 1200 (actW V6 (fun i => V (940 + 12 * n + (9 + i))) (570 + 12 * q + 9) 0)))) (by rw [actW_0, up_self (f := (va_up (va_up (va_up (va_up (va_up (va_up S40 93 (AJ w 1200 (V1))) 93 (AJ w 1200 (V2))) 93 (AJ w 1200 (V3))) 93 (AJ w 1200 (V4))) 93 (AJ w 1200 (V5))) 93 (AJ w 1200 (V6)))) (up_eq _ _ _)]) ?_
          exact lk ((3 : Int) - 0 + 1).toNat 0  (by omega) (by omega) (by omega) 
        · skip
          exact absurd (c_53.symm.trans c_65) (by decide)
    · skip
      refine g_ldc (pc := 36) hX (z := -1000002) (List.mem_of_getElem? (i := 3) rfl) (by decide +kernel) dX7_settle_36 ?_
      refine g_iret (pc := 38) hX hR dX7_settle_38 ?_
      try simp only [decide_eq_true_eq, decide_eq_false_iff_not] at c_15 c_32
      exact (if_pos (by omega)).mpr ((if_neg (by omega)).mpr (⟨rfl, rfl⟩))
  · skip
    refine g_ldc (pc := 18) hX (z := -1000001) (List.mem_of_getElem? (i := 2) rfl) (by decide +kernel) dX7_settle_18 ?_
    refine g_iret (pc := 20) hX hR dX7_settle_20 ?_
    try simp only [decide_eq_true_eq, decide_eq_false_iff_not] at c_15
    exact (if_neg (by omega)).mpr (⟨rfl, rfl⟩)
