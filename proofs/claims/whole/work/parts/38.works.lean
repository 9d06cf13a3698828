/-! ===== charges in the reference ===== -/
def bzM (V : Int → Int) (z x : Int) : Int := if mbx V z x < V (24 + 14 * z) then V (24 + 14 * z + 2 + 2 * mbx V z x + 1) else V (24 + 14 * z + 2 + 2 * (mbx V z x - 1) + 1) + V (24 + 14 * z + 1) * ((x - V (24 + 14 * z + 2 + 2 * (mbx V z x - 1)) + 1000 - 1) / 1000)
def brM (V : Int → Int) (z x : Int) : Int := if mbx V z x < V (24 + 14 * z) then 10 + mbx V z x else 20
theorem mbx_b {V : Int → Int} {z x : Int} (h : 0 ≤ V (24 + 14 * z)) : 0 ≤ mbx V z x ∧ mbx V z x ≤ V (24 + 14 * z) := by
  have := bfor_b (fun i => V (24 + 14 * z + 2 + 2 * i)) x (V (24 + 14 * z)).toNat 0
  unfold mbx
  omega
theorem mbx_lt {V : Int → Int} {z x i : Int} (h0 : 0 ≤ i) (h1 : i < mbx V z x) : V (24 + 14 * z + 2 + 2 * i) < x := bfor_lt (fun i => V (24 + 14 * z + 2 + 2 * i)) x (V (24 + 14 * z)).toNat 0 i h0 h1
def dimM (V : Int → Int) (a b c : Int) : Int := (volZ a b c * 1000 + V 6 - 1) / V 6
def bilM (V : Int → Int) (real dim : Int) : Int := V 7 * ((mx real dim + V 7 - 1) / V 7)
def flM (V : Int → Int) (real a b c z : Int) : Int → Int := fun i => if i = 0 then bilM V real (dimM V a b c) else if i = 1 then real else if i = 2 then dimM V a b c else if i = 3 then girZ a b c else if i = 4 then lngZ a b c else z
def hoM (F MK MM : Int → Int) (k : Int) : Bool := (evA (facM F) MK k (MM k).toNat).headD false
theorem evA_c {F F' MK : Int → Int} {k : Int} (h : ∀ i, 0 ≤ i → i ≤ 5 → F i = F' i) : ∀ n : Nat, okA MK k n → evA (facM F) MK k n = evA (facM F') MK k n
  | 0, _ => rfl
  | n + 1, hok => by
    have h1 := evA_c h n (fun i hi => hok i (by omega))
    have h2 := hok n (by omega)
    show evM (facM F) _ _ _ (evA (facM F) MK k n) = evM (facM F') _ _ _ (evA (facM F') MK k n)
    rw [h1]
    rcases h2 with h2 | h2 | h2
    · rw [evM_not h2.1, evM_not h2.1]
    · rcases h2.1 with h3 | h3
      · rw [evM_and h3, evM_and h3]
      · rw [evM_or h3, evM_or h3]
    · rw [evM_cmp (by omega) (by omega) h2.1 h2.2.1.1 h2.2.2.1, evM_cmp (by omega) (by omega) h2.1 h2.2.1.1 h2.2.2.1, h _ h2.2.1.1 h2.2.1.2]
def RMK (V MK MM CH AM : Int → Int) : Prop := ∀ k, 0 ≤ k → k < V 18 → (0 ≤ MM k ∧ MM k ≤ 66) ∧ okA MK k (MM k).toNat ∧ szA MK k (MM k).toNat = 1 ∧ (0 ≤ AM k ∧ AM k ≤ 99999) ∧ (CH k = 43 ∨ CH k = 45 ∨ CH k = 42)
def cgM (F MK MM CH AM : Int → Int) (b : Int) : Nat → Int
  | 0 => b
  | n + 1 => if hoM F MK MM n = true then chgeZ (CH n) (AM n) (cgM F MK MM CH AM b n) else cgM F MK MM CH AM b n
def hbM (F MK MM : Int → Int) : Nat → Int
  | 0 => 0
  | n + 1 => if hoM F MK MM n = true then hbM F MK MM n + ((2 ^ n : Nat) : Int) else hbM F MK MM n
theorem cgM_s (F MK MM CH AM : Int → Int) (b : Int) {c : Int} (h : 0 ≤ c) : cgM F MK MM CH AM b (c + 1).toNat = if hoM F MK MM c = true then chgeZ (CH c) (AM c) (cgM F MK MM CH AM b c.toNat) else cgM F MK MM CH AM b c.toNat := by
  rw [show (c + 1).toNat = c.toNat + 1 by omega]
  show (if hoM F MK MM (c.toNat : Int) = true then chgeZ (CH (c.toNat : Int)) (AM (c.toNat : Int)) _ else _) = _
  rw [show ((c.toNat : Nat) : Int) = c by omega]
theorem hbM_s (F MK MM : Int → Int) {c : Int} (h : 0 ≤ c) : hbM F MK MM (c + 1).toNat = if hoM F MK MM c = true then hbM F MK MM c.toNat + ((2 ^ c.toNat : Nat) : Int) else hbM F MK MM c.toNat := by
  rw [show (c + 1).toNat = c.toNat + 1 by omega]
  show (if hoM F MK MM (c.toNat : Int) = true then _ else _) = _
  rw [show ((c.toNat : Nat) : Int) = c by omega]
theorem cgM_b (F MK MM CH AM : Int → Int) {b : Int} (h : 0 ≤ b ∧ b ≤ 1000000000) : ∀ n, 0 ≤ cgM F MK MM CH AM b n ∧ cgM F MK MM CH AM b n ≤ 1000000000
  | 0 => h
  | n + 1 => by
    show 0 ≤ (if hoM F MK MM n = true then chgeZ (CH n) (AM n) (cgM F MK MM CH AM b n) else cgM F MK MM CH AM b n) ∧ (if hoM F MK MM n = true then chgeZ (CH n) (AM n) (cgM F MK MM CH AM b n) else cgM F MK MM CH AM b n) ≤ 1000000000
    split
    · exact chgeZ_b _ _ _
    · exact cgM_b F MK MM CH AM h n
theorem hbM_b (F MK MM : Int → Int) : ∀ n : Nat, 0 ≤ hbM F MK MM n ∧ hbM F MK MM n < ((2 ^ n : Nat) : Int)
  | 0 => ⟨Int.le_refl 0, by show (0 : Int) < ((1 : Nat) : Int); decide⟩
  | n + 1 => by
    have h := hbM_b F MK MM n
    show 0 ≤ (if hoM F MK MM n = true then hbM F MK MM n + ((2 ^ n : Nat) : Int) else hbM F MK MM n) ∧ (if hoM F MK MM n = true then hbM F MK MM n + ((2 ^ n : Nat) : Int) else hbM F MK MM n) < ((2 ^ (n + 1) : Nat) : Int)
    rw [Nat.pow_succ]
    split <;> omega
theorem lI_pow {k : Int} (h0 : 0 ≤ k) (h8 : k < 8) : lI 1 <<< ((iI k).toInt64 &&& 63) = lI ((2 ^ k.toNat : Nat) : Int) := by
  rcases (show k = 0 ∨ k = 1 ∨ k = 2 ∨ k = 3 ∨ k = 4 ∨ k = 5 ∨ k = 6 ∨ k = 7 by omega) with h | h | h | h | h | h | h | h <;> subst h <;> decide
theorem lI_bit {x : Int} {n : Nat} (h0 : 0 ≤ x) (h1 : x < ((2 ^ n : Nat) : Int)) : lI x ||| lI ((2 ^ n : Nat) : Int) = lI (x + ((2 ^ n : Nat) : Int)) := by
  rw [lI_lN h0, lI_lN (z := ((2 ^ n : Nat) : Int)) (Int.natCast_nonneg _), fb_orL, Nat.or_comm]
  have e := Nat.two_pow_add_eq_or_of_lt (i := n) (b := x.toNat) (by omega) 1
  rw [Nat.mul_one] at e
  rw [show (((2 ^ n : Nat) : Int)).toNat = 2 ^ n from rfl, ← e, lN_lI]
  congr 1
  omega
def wkM (V MK MM CH AM : Int → Int) (real a b c z : Int) : Int → Int := fun i =>
  if i = 0 then real else if i = 1 then a else if i = 2 then b else if i = 3 then c else if i = 4 then z else if i = 5 then dimM V a b c else if i = 6 then bilM V real (dimM V a b c) else if i = 7 then bzM V z (bilM V real (dimM V a b c))
  else if i = 8 then cgM (flM V real a b c z) MK MM CH AM (bzM V z (bilM V real (dimM V a b c))) (V 18).toNat else if i = 9 then wrZ real (dimM V a b c) else if i = 10 then brM V z (bilM V real (dimM V a b c)) else hbM (flM V real a b c z) MK MM (V 18).toNat
theorem updS {f : Int → Int} {i x : Int} (h : f i = x) : updZ f i x = f := by
  funext j
  unfold updZ
  split
  · rename_i h2
    rw [h2, h]
  · rfl
theorem updd (f : Int → Int) (i x y : Int) : updZ (updZ f i x) i y = updZ f i y := by
  funext j
  unfold updZ
  split <;> rfl

set_option maxHeartbeats 4000000 in
set_option maxRecDepth 100000 in
theorem c_X7_longest {w : gW} {l : Launch} {S : Nat → va_E}  {a b c : Int} (ha : 1 ≤ a ∧ a ≤ 2000) (hb : 1 ≤ b ∧ b ≤ 2000) (hc : 1 ≤ c ∧ c ≤ 2000) :
    GM1 w l yX7_longest wsX7_longest { frames := 0, cells := 0, slots := 0, locals := 0 } [vL (a), vL (b), vL (c)] S
      (fun v S' => v = vL (lngZ a b c) ∧ S' = S) := by
  refine GM.start (own := RX7) (n := "longest") (d := "(JJJ)J") (by decide) rfl (Nat.le_of_ble_eq_true rfl) ?_
  intro X hX hR hXl
  subst hXl
  refine g_at rfl (lv2 := [(0, vL (a)), (2, vL (b)), (4, vL (c))]) rfl rfl rfl ?_
  refine g_lload_n (pc := 0) hX 0 rfl dX7_longest_0 ?_
  refine g_lload_n (pc := 1) hX 1 rfl dX7_longest_1 ?_
  refine g_lcmp_le (pc := 2) (tgt := 10) hX (by first | assumption | exact inI_L (by assumption) | exact inL_mk (by omega) (by omega)) (by first | assumption | exact inI_L (by assumption) | exact inL_mk (by omega) (by omega)) dX7_longest_2 dX7_longest_3 (by decide) (fun c_2 => ?_) (fun c_2 => ?_)
  · skip
    refine g_lload_n (pc := 10) hX 1 rfl dX7_longest_10 ?_
    refine g_lstore (pc := 11) hX (lv2 := [(6, vL (b)), (0, vL (a)), (2, vL (b)), (4, vL (c))]) (by decide) rfl dX7_longest_11 ?_
    refine g_lload (pc := 13) hX 0 rfl dX7_longest_13 ?_
    refine g_lload (pc := 15) hX 3 rfl dX7_longest_15 ?_
    refine g_lcmp_le (pc := 17) (tgt := 26) hX (by first | assumption | exact inI_L (by assumption) | exact inL_mk (by omega) (by omega)) (by first | assumption | exact inI_L (by assumption) | exact inL_mk (by omega) (by omega)) dX7_longest_17 dX7_longest_18 (by decide) (fun c_17 => ?_) (fun c_17 => ?_)
    · skip
      refine g_lload (pc := 26) hX 3 rfl dX7_longest_26 ?_
      refine g_lret (pc := 28) hX hR dX7_longest_28 ?_
      exact ⟨vL_c (by unfold lngZ mx; split <;> (try split) <;> omega), rfl⟩
    · skip
      refine g_lload (pc := 21) hX 0 rfl dX7_longest_21 ?_
      refine g_goto (pc := 23) (tgt := 28) hX dX7_longest_23 (by decide) ?_
      refine g_lret (pc := 28) hX hR dX7_longest_28 ?_
      exact ⟨vL_c (by unfold lngZ mx; split <;> (try split) <;> omega), rfl⟩
  · skip
    refine g_lload_n (pc := 6) hX 0 rfl dX7_longest_6 ?_
    refine g_goto (pc := 7) (tgt := 11) hX dX7_longest_7 (by decide) ?_
    refine g_lstore (pc := 11) hX (lv2 := [(6, vL (a)), (0, vL (a)), (2, vL (b)), (4, vL (c))]) (by decide) rfl dX7_longest_11 ?_
    refine g_lload (pc := 13) hX 0 rfl dX7_longest_13 ?_
    refine g_lload (pc := 15) hX 3 rfl dX7_longest_15 ?_
    refine g_lcmp_le (pc := 17) (tgt := 26) hX (by first | assumption | exact inI_L (by assumption) | exact inL_mk (by omega) (by omega)) (by first | assumption | exact inI_L (by assumption) | exact inL_mk (by omega) (by omega)) dX7_longest_17 dX7_longest_18 (by decide) (fun c_17 => ?_) (fun c_17 => ?_)
    · skip
      refine g_lload (pc := 26) hX 3 rfl dX7_longest_26 ?_
      refine g_lret (pc := 28) hX hR dX7_longest_28 ?_
      exact ⟨vL_c (by unfold lngZ mx; split <;> (try split) <;> omega), rfl⟩
    · skip
      refine g_lload (pc := 21) hX 0 rfl dX7_longest_21 ?_
      refine g_goto (pc := 23) (tgt := 28) hX dX7_longest_23 (by decide) ?_
      refine g_lret (pc := 28) hX hR dX7_longest_28 ?_
      exact ⟨vL_c (by unfold lngZ mx; split <;> (try split) <;> omega), rfl⟩

set_option maxHeartbeats 4000000 in
set_option maxRecDepth 100000 in
theorem c_X7_girth {w : gW} {l : Launch} {S : Nat → va_E}  {a b c : Int} (ha : 1 ≤ a ∧ a ≤ 2000) (hb : 1 ≤ b ∧ b ≤ 2000) (hc : 1 ≤ c ∧ c ≤ 2000) :
    GM1 w l yX7_girth wsX7_girth { frames := 1, cells := 0, slots := 0, locals := 27 } [vL (a), vL (b), vL (c)] S
      (fun v S' => v = vL (girZ a b c) ∧ S' = S) := by
  refine GM.start (own := RX7) (n := "girth") (d := "(JJJ)J") (by decide) rfl (Nat.le_of_ble_eq_true rfl) ?_
  intro X hX hR hXl
  subst hXl
  refine g_at rfl (lv2 := [(0, vL (a)), (2, vL (b)), (4, vL (c))]) rfl rfl rfl ?_
  refine g_ldc2 (pc := 0) hX (z := 2) (List.mem_of_getElem? (i := 1) rfl) (by decide +kernel) dX7_girth_0 ?_
  refine g_lload_n (pc := 3) hX 0 rfl dX7_girth_3 ?_
  refine g_lload_n (pc := 4) hX 1 rfl dX7_girth_4 ?_
  refine g_ladd (pc := 5) hX dX7_girth_5 ?_
  refine g_lload (pc := 6) hX 2 rfl dX7_girth_6 ?_
  refine g_ladd (pc := 8) hX dX7_girth_8 ?_
  refine g_lmul (pc := 9) hX dX7_girth_9 ?_
  refine g_lload_n (pc := 10) hX 0 rfl dX7_girth_10 ?_
  refine g_lload_n (pc := 11) hX 1 rfl dX7_girth_11 ?_
  refine g_lload (pc := 12) hX 2 rfl dX7_girth_12 ?_
  refine g_callT1 (pc := 14) (As := [vL (a), vL (b), vL (c)]) (st2 := [vL (2 * ((a + b) + c))]) hX (c_X7_longest (a := a) (b := b) (c := c) ha hb hc) gX7_girth_X7_longest (n := 3) (hw := rfl) (hrc := rfl) (hrs := rfl) (hd := by decide +kernel) (hR := ⟨Nat.le_of_ble_eq_true rfl, Nat.le_of_ble_eq_true rfl⟩) (hn := rfl) (hst := rfl) (hsum := Nat.le_of_ble_eq_true rfl) (hdg := dX7_girth_14) ?_
  rintro _ S9 ⟨rfl, e9⟩
  rw [e9]
  clear e9 S9
  refine g_at (pc2 := 17) rfl rfl (st2 := [vL (lngZ a b c), vL (2 * ((a + b) + c))]) rfl (S2 := S) rfl ?_
  refine g_lsub (pc := 17) hX dX7_girth_17 ?_
  refine g_lret (pc := 18) hX hR dX7_girth_18 ?_
  exact ⟨vL_c (by unfold girZ; omega), rfl⟩

set_option maxHeartbeats 4000000 in
set_option maxRecDepth 100000 in
theorem c_X7_volume {w : gW} {l : Launch} {S : Nat → va_E}  {a b c : Int} (ha : 1 ≤ a ∧ a ≤ 2000) (hb : 1 ≤ b ∧ b ≤ 2000) (hc : 1 ≤ c ∧ c ≤ 2000) :
    GM1 w l yX7_volume wsX7_volume { frames := 1, cells := 0, slots := 0, locals := 23 } [vL (a), vL (b), vL (c)] S
      (fun v S' => v = vL (volZ a b c) ∧ S' = S) := by
  refine GM.start (own := RX7) (n := "volume") (d := "(JJJ)J") (by decide) rfl (Nat.le_of_ble_eq_true rfl) ?_
  intro X hX hR hXl
  subst hXl
  refine g_at rfl (lv2 := [(0, vL (a)), (2, vL (b)), (4, vL (c))]) rfl rfl rfl ?_
  refine g_lload_n (pc := 0) hX 0 rfl dX7_volume_0 ?_
  refine g_ldc2 (pc := 1) hX (z := 10) (List.mem_of_getElem? (i := 1) rfl) (by decide +kernel) dX7_volume_1 ?_
  refine g_callT1 (pc := 4) (As := [vL (a), vL (10)]) (st2 := []) hX (c_X7_up (x := a) (y := 10) (by omega) (by omega)) gX7_volume_X7_up (n := 2) (hw := rfl) (hrc := rfl) (hrs := rfl) (hd := by decide +kernel) (hR := ⟨Nat.le_of_ble_eq_true rfl, Nat.le_of_ble_eq_true rfl⟩) (hn := rfl) (hst := rfl) (hsum := Nat.le_of_ble_eq_true rfl) (hdg := dX7_volume_4) ?_
  rintro _ S9 ⟨rfl, e9⟩
  rw [e9]
  clear e9 S9
  refine g_at (pc2 := 7) rfl rfl (st2 := [vL ((a + 10 - 1) / 10)]) rfl (S2 := S) rfl ?_
  refine g_lload_n (pc := 7) hX 1 rfl dX7_volume_7 ?_
  refine g_ldc2 (pc := 8) hX (z := 10) (List.mem_of_getElem? (i := 1) rfl) (by decide +kernel) dX7_volume_8 ?_
  refine g_callT1 (pc := 11) (As := [vL (b), vL (10)]) (st2 := [vL ((a + 10 - 1) / 10)]) hX (c_X7_up (x := b) (y := 10) (by omega) (by omega)) gX7_volume_X7_up (n := 2) (hw := rfl) (hrc := rfl) (hrs := rfl) (hd := by decide +kernel) (hR := ⟨Nat.le_of_ble_eq_true rfl, Nat.le_of_ble_eq_true rfl⟩) (hn := rfl) (hst := rfl) (hsum := Nat.le_of_ble_eq_true rfl) (hdg := dX7_volume_11) ?_
  rintro _ S9 ⟨rfl, e9⟩
  rw [e9]
  clear e9 S9
  refine g_at (pc2 := 14) rfl rfl (st2 := [vL ((b + 10 - 1) / 10), vL ((a + 10 - 1) / 10)]) rfl (S2 := S) rfl ?_
  refine g_lmul (pc := 14) hX dX7_volume_14 ?_
  refine g_lload (pc := 15) hX 2 rfl dX7_volume_15 ?_
  refine g_ldc2 (pc := 17) hX (z := 10) (List.mem_of_getElem? (i := 1) rfl) (by decide +kernel) dX7_volume_17 ?_
  refine g_callT1 (pc := 20) (As := [vL (c), vL (10)]) (st2 := [vL (((a + 10 - 1) / 10) * ((b + 10 - 1) / 10))]) hX (c_X7_up (x := c) (y := 10) (by omega) (by omega)) gX7_volume_X7_up (n := 2) (hw := rfl) (hrc := rfl) (hrs := rfl) (hd := by decide +kernel) (hR := ⟨Nat.le_of_ble_eq_true rfl, Nat.le_of_ble_eq_true rfl⟩) (hn := rfl) (hst := rfl) (hsum := Nat.le_of_ble_eq_true rfl) (hdg := dX7_volume_20) ?_
  rintro _ S9 ⟨rfl, e9⟩
  rw [e9]
  clear e9 S9
  refine g_at (pc2 := 23) rfl rfl (st2 := [vL ((c + 10 - 1) / 10), vL (((a + 10 - 1) / 10) * ((b + 10 - 1) / 10))]) rfl (S2 := S) rfl ?_
  refine g_lmul (pc := 23) hX dX7_volume_23 ?_
  refine g_lret (pc := 24) hX hR dX7_volume_24 ?_
  refine ⟨vL_c ?_, rfl⟩
  unfold volZ
  rw [show a + 10 - 1 = a + 9 by omega, show b + 10 - 1 = b + 9 by omega, show c + 10 - 1 = c + 9 by omega]
