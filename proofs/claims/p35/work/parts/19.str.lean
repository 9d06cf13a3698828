/-! ===== rows at the constant texts ===== -/
section G19
variable {w : gW} {R : Room} {X : gX} {nL pc : Nat} {cc : ByteArray} {own : String} {Ts : List Cond} {lv : List (Nat × Value)} {st : List Value} {S : Nat → va_E}
theorem g_ldcS (hX : gOK w R X cc nL own Ts) {index q : Nat} {tx : String} (hZ : vk_R own index tx q (gx_s X)) (hdg : decode cc pc = .ok (.ldc index, 2)) (k : G w R X nL (pc + 2) lv (.ref q :: st) S) : G w R X nL pc lv st S := by
  intro H locs ls hP hS hl
  exact va_ldcS hX.1 hX.2.1 hX.2.2.2.1 hZ hdg (k H locs ls hP hS hl)
theorem g_strf (hX : gOK w R X cc nL own Ts) {index q : Nat} {n d : String} {v : Value} (hE : va_OF "java/lang/String" n d v q (gA w) (gx_s X) (gx_s X).heap) (hm : Cond.fieldLink own index "java/lang/String" n d ∈ Ts) (hdg : decode cc pc = .ok (.getfield index, 3)) (k : G w R X nL (pc + 3) lv (v :: st) S) : G w R X nL pc lv (.ref q :: st) S := by
  intro H locs ls hP hS hl
  exact vk_getf hX.1 hX.2.1 hE hS hX.2.2.2.1 (hX.2.2.2.2.1 _ hm) (fun _ h => h) hdg (k H locs ls hP hS hl)
theorem g_getsC (hX : gOK w R X cc nL own Ts) {index : Nat} (hm : Cond.fieldLink own index "java/lang/String" "COMPACT_STRINGS" "Z" ∈ Ts) (hdg : decode cc pc = .ok (.getstatic index, 3)) (k : G w R X nL (pc + 3) lv (vI 1 :: st) S) : G w R X nL pc lv st S := by
  intro H locs ls hP hS hl
  exact va_gets hX.1 hX.2.1 hX.2.2.2.2.2.2.2.2.1.2.2.2.1.2.2.2 hS hX.2.2.2.1 (hX.2.2.2.2.1 _ hm) (fun _ h => h) hdg (k H locs ls hP hS hl)
theorem g_tbald (hX : gOK w R X cc nL own Ts) {N t : Nat} {g : Nat → Int32} {f : Int → Int} (hT : va_T .byte t N (fun j => .int (g j)) (gA w) (gx_s X) (gx_s X).heap) (hfe : ∀ j : Int, 0 ≤ j → j < N → g j.toNat = iI (f j)) {i : Int} (h0 : 0 ≤ i) (h1 : i < N) (hn : N ≤ 2147483647) (hdg : decode cc pc = .ok (.baload, 1))
    (k : G w R X nL (pc + 1) lv (vI (f i) :: st) S) : G w R X nL pc lv (vI i :: .ref t :: st) S := by
  intro H locs ls hP hS hl
  exact va_tb hX.1 hX.2.1 hT hS (iI_vpin h0 h1 hn) (by rw [iI_nat ⟨by omega, by omega⟩, hfe i h0 h1]) hdg (k H locs ls hP hS hl)
theorem g_tblen (hX : gOK w R X cc nL own Ts) {N t : Nat} {g : Nat → Int32} (hT : va_T .byte t N (fun j => .int (g j)) (gA w) (gx_s X) (gx_s X).heap) (hdg : decode cc pc = .ok (.arraylength, 1))
    (k : G w R X nL (pc + 1) lv (vI (N : Int) :: st) S) : G w R X nL pc lv (.ref t :: st) S := by
  intro H locs ls hP hS hl
  exact va_tlen hX.1 hX.2.1 hT hS (iI_ofNat N) hdg (k H locs ls hP hS hl)
theorem g_i2b (hX : gOK w R X cc nL own Ts) {x : Int32} {z : Int} (hz : x.toInt8.toInt32 = iI z) (hdg : decode cc pc = .ok (.i2b, 1)) (k : G w R X nL (pc + 1) lv (vI z :: st) S) : G w R X nL pc lv (.int x :: st) S := by
  intro H locs ls hP hS hl
  exact lv_i2b hX.1 hX.2.1 hdg hz (k H locs ls hP hS hl)
theorem g_ishr0 (hX : gOK w R X cc nL own Ts) {x : Int} (hdg : decode cc pc = .ok (.ishr, 1)) (k : G w R X nL (pc + 1) lv (vI x :: st) S) : G w R X nL pc lv (vI 0 :: vI x :: st) S := by
  intro H locs ls hP hS hl
  have e : iI x >>> (iI 0 &&& 31) = iI x := by
    apply Int32.toBitVec_inj.mp
    show BitVec.sshiftRight' _ _ = _
    rw [show ((iI 0 &&& 31).toBitVec.smod 32 : BitVec 32) = 0 by decide]
    simp
  refine lv_ishr hX.1 hX.2.1 hdg ?_
  rw [e]
  exact k H locs ls hP hS hl
theorem g_bret (hX : gOK w R X cc nL own Ts) {K : Value → (Nat → va_E) → Prop} {x : Int32} (hR : gRet w X (some .byte) (g1 K)) (hx : narrow .byte (.int x) = .int x) (hdg : decode cc pc = .ok (.ireturn, 1)) (hp : K (.int x) S) : G w R X nL pc lv [.int x] S := by
  intro H locs ls hP hS hl
  have hlk : (gx_h X).locks = false := hR.2.1
  rw [hR.2.2]
  exact W.zret (v := x) hX.1 hX.2.1 hR.1 hx (fun t ht hW => ⟨⟨some (.int x), S, rfl, ⟨_, rfl, hp⟩, by rw [ht]; exact hP⟩, hS.F ht⟩) hS.2.2 hdg hlk
theorem g_callK (hX : gOK w R X cc nL own Ts) {index maxL n : Nat} {y : MethodName} {bytes : ByteArray} {ret : Option FieldType} {ws ws' : List Cond} {rm : Room} {st2 As : List Value} {K : Option Value → (Nat → va_E) → Prop} {i : Nat} (hi : i < 2) (hM : GM w (gx_l X) y ws rm (.ref (gw_t w (3 + i)) :: As) S K) (hT : GoodIn Ts (wsV own index "java/lang/String" y ws)) (hw : ws = Cond.code y bytes maxL ret :: ws') (hrc : rm.cells = 0) (hrs : rm.slots = 0)
    (hd : y.cls = "java/lang/String" ∧ y.cls ≠ "java/lang/invoke/MethodHandle" ∧ y.cls ≠ "java/lang/invoke/VarHandle" ∧ (parseMethodDescriptor y.desc).map (fun d => d.parameters.length) = some n) (hR : rm.frames + 1 ≤ R.frames ∧ 8 + (maxL + 11) + rm.locals ≤ R.locals) (hn : As.length = n) (hst : st = As.reverse ++ .ref (gw_t w (3 + i)) :: st2) (hsum : (st2.map fun v => v.category).sum ≤ 8) (hdg : decode cc pc = .ok (.invokevirtual index, 3))
    (k : ∀ v S', K v S' → G w R X nL (pc + 3) lv (v.toList ++ st2) S') : G w R X nL pc lv st S := by
  intro H locs ls hP hS hl
  refine g_run hX (st2 := st2) (a := (Value.ref (gw_t w (3 + i)) :: As).toArray) hS hl (va_runV (As := As) (rest := st2) ⟨hX.1, hX.2.1, hX.2.2.1, hX.2.2.2.1, hX.2.2.2.2.1⟩ hM (cwV n hX.2.2.2.2.1 hT hw hrc hrs hd hR) ⟨gPre.blind, vk_recv (i := i) hX.2.2.2.2.2.2.2.2.1.2.2.2.1.2.2.1 hi hS, fun U hU hW => ⟨rfl, gPre_at hX hP hS hU hW⟩⟩ rfl hn hl.1 hst (lv_room hsum) hdg ⟨hX.2.2.2.2.2.2.2.2.2.1, hX.2.2.2.2.2.2.2.2.2.2⟩) k
theorem g_callK1 (hX : gOK w R X cc nL own Ts) {index maxL n : Nat} {y : MethodName} {bytes : ByteArray} {ret : Option FieldType} {ws ws' : List Cond} {rm : Room} {st2 As : List Value} {K : Value → (Nat → va_E) → Prop} {i : Nat} (hi : i < 2) (hM : GM1 w (gx_l X) y ws rm (.ref (gw_t w (3 + i)) :: As) S K) (hT : GoodIn Ts (wsV own index "java/lang/String" y ws)) (hw : ws = Cond.code y bytes maxL ret :: ws') (hrc : rm.cells = 0) (hrs : rm.slots = 0)
    (hd : y.cls = "java/lang/String" ∧ y.cls ≠ "java/lang/invoke/MethodHandle" ∧ y.cls ≠ "java/lang/invoke/VarHandle" ∧ (parseMethodDescriptor y.desc).map (fun d => d.parameters.length) = some n) (hR : rm.frames + 1 ≤ R.frames ∧ 8 + (maxL + 11) + rm.locals ≤ R.locals) (hn : As.length = n) (hst : st = As.reverse ++ .ref (gw_t w (3 + i)) :: st2) (hsum : (st2.map fun v => v.category).sum ≤ 8) (hdg : decode cc pc = .ok (.invokevirtual index, 3))
    (k : ∀ x S', K x S' → G w R X nL (pc + 3) lv (x :: st2) S') : G w R X nL pc lv st S := g_callK hX hi hM hT hw hrc hrs hd hR hn hst hsum hdg (fun v S' h => by obtain ⟨x, rfl, h2⟩ := h; exact k x S' h2)
end G19
theorem ch_i2b {c : Int} (h0 : 0 ≤ c) (h1 : c < 128) : (iI c).toInt8.toInt32 = iI c := by
  have h : ∀ n : Nat, n < 128 → (iI (n : Int)).toInt8.toInt32 = iI (n : Int) := by decide +kernel
  have := h c.toNat (by omega)
  rw [show ((c.toNat : Nat) : Int) = c by omega] at this
  exact this
theorem ch_i2c {c : Int} (h0 : 0 ≤ c) (h1 : c < 128) : ((iI c).toUInt32 % 65536).toInt32 = iI c := by
  have h : ∀ n : Nat, n < 128 → ((iI (n : Int)).toUInt32 % 65536).toInt32 = iI (n : Int) := by decide +kernel
  have := h c.toNat (by omega)
  rw [show ((c.toNat : Nat) : Int) = c by omega] at this
  exact this
def bfi (f : Int → Int) (x : Int) : Nat → Int → Int
  | 0, _ => -1
  | k + 1, i => if f i = x then i else bfi f x k (i + 1)
def txA : Int → Int := fun j => [119, 114, 118, 103, 108, 122].getD j.toNat 0
def txB : Int → Int := fun j => [60, 61, 62].getD j.toNat 0
theorem txA_e : ∀ j : Int, 0 ≤ j → j < (6 : Nat) → ([119, 114, 118, 103, 108, 122] : List Int32).getD j.toNat 0 = iI (txA j) := by
  intro j h0 h1
  rcases (show j = 0 ∨ j = 1 ∨ j = 2 ∨ j = 3 ∨ j = 4 ∨ j = 5 by omega) with rfl | rfl | rfl | rfl | rfl | rfl <;> rfl
theorem txB_e : ∀ j : Int, 0 ≤ j → j < (3 : Nat) → ([60, 61, 62] : List Int32).getD j.toNat 0 = iI (txB j) := by
  intro j h0 h1
  rcases (show j = 0 ∨ j = 1 ∨ j = 2 by omega) with rfl | rfl | rfl <;> rfl
theorem txA_in (j : Int) : inI (txA j) := by
  unfold txA
  match j.toNat with
  | 0 => exact ⟨by decide, by decide⟩
  | 1 => exact ⟨by decide, by decide⟩
  | 2 => exact ⟨by decide, by decide⟩
  | 3 => exact ⟨by decide, by decide⟩
  | 4 => exact ⟨by decide, by decide⟩
  | 5 => exact ⟨by decide, by decide⟩
  | n + 6 => exact inI_0
theorem txB_in (j : Int) : inI (txB j) := by
  unfold txB
  match j.toNat with
  | 0 => exact ⟨by decide, by decide⟩
  | 1 => exact ⟨by decide, by decide⟩
  | 2 => exact ⟨by decide, by decide⟩
  | n + 3 => exact inI_0
def letZ (c : Int) : Int := if c = 119 then 0 else if c = 114 then 1 else if c = 118 then 2 else if c = 103 then 3 else if c = 108 then 4 else if c = 122 then 5 else -1
def relZ (c : Int) : Int := if c = 60 then 0 else if c = 61 then 1 else if c = 62 then 2 else -1
theorem letZ_e (c : Int) : bfi txA c 6 0 = letZ c := by
  show (if (119 : Int) = c then 0 else if (114 : Int) = c then 0 + 1 else if (118 : Int) = c then 0 + 1 + 1 else if (103 : Int) = c then 0 + 1 + 1 + 1 else if (108 : Int) = c then 0 + 1 + 1 + 1 + 1 else if (122 : Int) = c then 0 + 1 + 1 + 1 + 1 + 1 else -1) = _
  unfold letZ
  simp only [eq_comm (b := c)]
  rfl
theorem relZ_e (c : Int) : bfi txB c 3 0 = relZ c := by
  show (if (60 : Int) = c then 0 else if (61 : Int) = c then 0 + 1 else if (62 : Int) = c then 0 + 1 + 1 else -1) = _
  unfold relZ
  simp only [eq_comm (b := c)]
  rfl
theorem letZ_b (c : Int) : -1 ≤ letZ c ∧ letZ c ≤ 5 := by
  unfold letZ
  repeat (first | omega | split)
theorem relZ_b (c : Int) : -1 ≤ relZ c ∧ relZ c ≤ 2 := by
  unfold relZ
  repeat (first | omega | split)

set_option maxHeartbeats 4000000 in
set_option maxRecDepth 100000 in
theorem c_J1_canEncode_9a6ad {w : gW} {l : Launch} {S : Nat → va_E} {c : Int} (h0 : 0 ≤ c) (h1 : c < 128) :
    GM1 w l yJ1_canEncode_9a6ad wsJ1_canEncode_9a6ad { frames := 0, cells := 0, slots := 0, locals := 0 } [vI (c)] S
      (fun v S' => v = vI (bz true) ∧ S' = S) := by
  refine GM.startJ (own := RJ1) (n := "canEncode") (d := "(I)Z") (by decide +kernel) rfl (Nat.le_of_ble_eq_true rfl) ?_
  intro X hX hR hXl
  subst hXl
  refine g_at rfl (lv2 := [(0, vI (c))]) rfl rfl rfl ?_
  refine g_iload_n (pc := 0) hX 0 rfl dJ1_canEncode_9a6ad_0 ?_
  refine g_if_lt (pc := 1) (tgt := 15) hX (by first | assumption | exact inI_mk (by omega) (by omega)) dJ1_canEncode_9a6ad_1 (by decide) (fun c_1 => ?_) (fun c_1 => ?_)
  · skip
    exact absurd c_1 (by omega)
  · skip
    refine g_iload_n (pc := 4) hX 0 rfl dJ1_canEncode_9a6ad_4 ?_
    refine g_sipush (pc := 5) hX (by decide) dJ1_canEncode_9a6ad_5 ?_
    refine g_icmp_gt (pc := 8) (tgt := 15) hX (by first | assumption | exact inI_mk (by omega) (by omega)) (by first | assumption | exact inI_mk (by omega) (by omega)) dJ1_canEncode_9a6ad_8 (by decide) (fun c_8 => ?_) (fun c_8 => ?_)
    · skip
      exact absurd c_8 (by omega)
    · skip
      refine g_iconst (pc := 11) hX dJ1_canEncode_9a6ad_11 ?_
      refine g_goto (pc := 12) (tgt := 16) hX dJ1_canEncode_9a6ad_12 (by decide) ?_
      refine g_at rfl rfl (st2 := [vI (bz true)]) rfl rfl ?_
      refine g_zret (pc := 16) hX hR dJ1_canEncode_9a6ad_16 ?_
      exact ⟨rfl, rfl⟩

set_option maxHeartbeats 4000000 in
set_option maxRecDepth 100000 in
theorem c_J1_indexOfChar_0 {w : gW} {l : Launch} {S : Nat → va_E} {c : Int} (h0 : 0 ≤ c) (h1 : c < 128) :
    GM1 w l yJ1_indexOfChar_4cfef wsJ1_indexOfChar_4cfef { frames := 0, cells := 0, slots := 0, locals := 0 } [.ref (gw_t w 5), vI (c), vI (0), vI ((6 : Nat))] S
      (fun v S' => v = vI (letZ c) ∧ S' = S) := by
  refine GM.startJ (own := RJ1) (n := "indexOfChar") (d := "([BIII)I") (by decide +kernel) rfl (Nat.le_of_ble_eq_true rfl) ?_
  intro X hX hR hXl
  subst hXl
  refine g_at rfl (lv2 := [(0, .ref (gw_t w 5)), (1, vI (c)), (2, vI (0)), (3, vI ((6 : Nat)))]) rfl rfl rfl ?_
  refine g_iload_n (pc := 0) hX 1 rfl dJ1_indexOfChar_4cfef_0 ?_
  refine g_i2b (pc := 1) hX (z := c) (ch_i2b h0 h1) dJ1_indexOfChar_4cfef_1 ?_
  refine g_istore (pc := 2) hX (lv2 := [(4, vI (c)), (0, .ref (gw_t w 5)), (1, vI (c)), (2, vI (0)), (3, vI ((6 : Nat)))]) (by decide) rfl dJ1_indexOfChar_4cfef_2 ?_
  refine g_iload_n (pc := 4) hX 3 rfl dJ1_indexOfChar_4cfef_4 ?_
  refine g_istore (pc := 5) hX (lv2 := [(5, vI (0)), (4, vI (c)), (0, .ref (gw_t w 5)), (1, vI (c)), (2, vI (0)), (3, vI ((6 : Nat)))]) (by decide) rfl dJ1_indexOfChar_4cfef_5 ?_
  have loop : ∀ (n0 : Nat) (j : Int), 0 ≤ j → j ≤ (6 : Nat) → (6 : Nat) - j < n0 → (bfi txA c ((6 : Nat) - j : Int).toNat j = letZ c) → G w { frames := 0, cells := 0, slots := 0, locals := 0 } X 6 7 [(5, vI (j)), (0, .ref (gw_t w 5)), (1, vI (c)), (3, vI ((6 : Nat))), (4, vI (c))] [] S := by
    intro n0
    induction n0 with
    | zero => intro j  h1j h2j h3j; exact absurd h3j (by omega)
    | succ n0 ihloop =>
      intro j  h1j h2j h3j hb
      refine g_iload (pc := 7) hX 0 rfl dJ1_indexOfChar_4cfef_7 ?_
      refine g_iload_n (pc := 9) hX 3 rfl dJ1_indexOfChar_4cfef_9 ?_
      refine g_icmp_ge (pc := 10) (tgt := 31) hX (by first | assumption | exact inI_mk (by omega) (by omega)) (by first | assumption | exact inI_mk (by omega) (by omega)) dJ1_indexOfChar_4cfef_10 (by decide) (fun c_10 => ?_) (fun c_10 => ?_)
      · skip
        refine g_iconst (pc := 31) hX dJ1_indexOfChar_4cfef_31 ?_
        refine g_iret (pc := 32) hX hR dJ1_indexOfChar_4cfef_32 ?_
        rw [show ((6 : Nat) - j : Int).toNat = 0 by omega] at hb
        exact ⟨vI_c hb, rfl⟩
      · skip
        refine g_aload_n (pc := 13) hX 1 rfl dJ1_indexOfChar_4cfef_13 ?_
        refine g_iload (pc := 14) hX 0 rfl dJ1_indexOfChar_4cfef_14 ?_
        refine g_tbald (pc := 16) hX (N := 6) (hX.2.2.2.2.2.2.2.2.1.2.2.2.1.2.2.1.1 0 (by decide)).2.2.2 txA_e h1j (by omega) (by decide) dJ1_indexOfChar_4cfef_16 ?_
        refine g_iload (pc := 17) hX 4 rfl dJ1_indexOfChar_4cfef_17 ?_
        refine g_icmp_ne (pc := 19) (tgt := 25) hX (txA_in j) (by first | assumption | exact inI_mk (by omega) (by omega)) dJ1_indexOfChar_4cfef_19 (by decide) (fun c_19 => ?_) (fun c_19 => ?_)
        · skip
          refine g_iinc (pc := 25) hX (lv2 := [(5, vI (j + 1)), (0, .ref (gw_t w 5)), (1, vI (c)), (3, vI ((6 : Nat))), (4, vI (c))]) 0 rfl (by decide) rfl dJ1_indexOfChar_4cfef_25 ?_
          refine g_goto (pc := 28) (tgt := 7) hX dJ1_indexOfChar_4cfef_28 (by decide) ?_
          refine g_sub (lv2 := [(5, vI (j + 1)), (0, .ref (gw_t w 5)), (1, vI (c)), (3, vI ((6 : Nat))), (4, vI (c))]) [0, 1, 2, 3, 4] rfl ?_
          refine g_at rfl (lv2 := [(5, vI (j + 1)), (0, .ref (gw_t w 5)), (1, vI (c)), (3, vI ((6 : Nat))), (4, vI (c))]) (rfl) rfl (S2 := S) (rfl) ?_
          exact ihloop (j + 1)  (by omega) (by omega) (by omega) (by rw [show ((6 : Nat) - j : Int).toNat = ((6 : Nat) - (j + 1) : Int).toNat + 1 by omega] at hb; rw [← hb]; exact (if_neg c_19).symm)
        · skip
          refine g_iload (pc := 22) hX 0 rfl dJ1_indexOfChar_4cfef_22 ?_
          refine g_iret (pc := 24) hX hR dJ1_indexOfChar_4cfef_24 ?_
          rw [show ((6 : Nat) - j : Int).toNat = ((6 : Nat) - (j + 1) : Int).toNat + 1 by omega] at hb
          exact ⟨vI_c (by rw [← hb]; exact (if_pos c_19).symm), rfl⟩
  refine g_sub (lv2 := [(5, vI (0)), (0, .ref (gw_t w 5)), (1, vI (c)), (3, vI ((6 : Nat))), (4, vI (c))]) [0, 2, 3, 5, 1] rfl ?_
  refine g_at rfl (lv2 := [(5, vI (0)), (0, .ref (gw_t w 5)), (1, vI (c)), (3, vI ((6 : Nat))), (4, vI (c))]) (rfl) rfl (S2 := S) (rfl) ?_
  exact loop (((6 : Nat) : Int) - 0 + 1).toNat 0  (by omega) (by omega) (by omega) (letZ_e c)

set_option maxHeartbeats 4000000 in
set_option maxRecDepth 100000 in
theorem c_J1_indexOf_0 {w : gW} {l : Launch} {S : Nat → va_E} {c : Int} (h0 : 0 ≤ c) (h1 : c < 128) :
    GM1 w l yJ1_indexOf_4cfef wsJ1_indexOf_4cfef { frames := 1, cells := 0, slots := 0, locals := 25 } [.ref (gw_t w 5), vI (c), vI (0), vI ((6 : Nat))] S
      (fun v S' => v = vI (letZ c) ∧ S' = S) := by
  refine GM.startJ (own := RJ1) (n := "indexOf") (d := "([BIII)I") (by decide +kernel) rfl (Nat.le_of_ble_eq_true rfl) ?_
  intro X hX hR hXl
  subst hXl
  refine g_at rfl (lv2 := [(0, .ref (gw_t w 5)), (1, vI (c)), (2, vI (0)), (3, vI ((6 : Nat)))]) rfl rfl rfl ?_
  refine g_iload_n (pc := 0) hX 1 rfl dJ1_indexOf_4cfef_0 ?_
  refine g_callT1 (pc := 1) (As := [vI (c)]) (st2 := []) hX (c_J1_canEncode_9a6ad (c := c) h0 h1) gJ1_indexOf_4cfef_J1_canEncode_9a6ad (n := 1) (hw := rfl) (hrc := rfl) (hrs := rfl) (hd := by decide +kernel) (hR := ⟨Nat.le_of_ble_eq_true rfl, Nat.le_of_ble_eq_true rfl⟩) (hn := rfl) (hst := rfl) (hsum := Nat.le_of_ble_eq_true rfl) (hdg := dJ1_indexOf_4cfef_1) ?_
  rintro _ S9 ⟨rfl, e9⟩
  rw [e9]
  clear e9 S9
  refine g_at (pc2 := 4) rfl rfl (st2 := [vI (bz (true))]) rfl (S2 := S) rfl ?_
  refine g_bif_ne (pc := 4) (tgt := 9) hX dJ1_indexOf_4cfef_4 (by decide) (fun c_4 => ?_) (fun c_4 => ?_)
  · skip
    refine g_iload_n (pc := 9) hX 2 rfl dJ1_indexOf_4cfef_9 ?_
    refine g_iconst (pc := 10) hX dJ1_indexOf_4cfef_10 ?_
    refine g_mmax (pc := 11) hX (by first | assumption | exact inI_mk (by omega) (by omega)) (by first | assumption | exact inI_mk (by omega) (by omega)) (List.mem_of_getElem? (i := 1) rfl) (List.mem_of_getElem? (i := 2) rfl) (List.mem_of_getElem? (i := 3) rfl) (List.mem_of_getElem? (i := 4) rfl) (Nat.le_of_ble_eq_true rfl) (Nat.le_of_ble_eq_true rfl) dJ1_indexOf_4cfef_11 ?_
    refine g_at rfl rfl (st2 := [vI (0)]) (by rfl) rfl ?_
    refine g_istore_n (pc := 14) hX (lv2 := [(2, vI (0)), (0, .ref (gw_t w 5)), (1, vI (c)), (3, vI ((6 : Nat)))]) rfl (by decide) rfl dJ1_indexOf_4cfef_14 ?_
    refine g_iload_n (pc := 15) hX 3 rfl dJ1_indexOf_4cfef_15 ?_
    refine g_aload_n (pc := 16) hX 1 rfl dJ1_indexOf_4cfef_16 ?_
    refine g_tblen (pc := 17) hX (N := 6) (hX.2.2.2.2.2.2.2.2.1.2.2.2.1.2.2.1.1 0 (by decide)).2.2.2 dJ1_indexOf_4cfef_17 ?_
    refine g_mmin (pc := 18) hX (by first | assumption | exact inI_mk (by omega) (by omega)) (by first | assumption | exact inI_mk (by omega) (by omega)) (List.mem_of_getElem? (i := 5) rfl) (List.mem_of_getElem? (i := 6) rfl) (List.mem_of_getElem? (i := 3) rfl) (List.mem_of_getElem? (i := 7) rfl) (Nat.le_of_ble_eq_true rfl) (Nat.le_of_ble_eq_true rfl) dJ1_indexOf_4cfef_18 ?_
    refine g_at rfl rfl (st2 := [vI ((6 : Nat))]) (by rfl) rfl ?_
    refine g_istore_n (pc := 21) hX (lv2 := [(3, vI ((6 : Nat))), (2, vI (0)), (0, .ref (gw_t w 5)), (1, vI (c))]) rfl (by decide) rfl dJ1_indexOf_4cfef_21 ?_
    refine g_iload_n (pc := 22) hX 1 rfl dJ1_indexOf_4cfef_22 ?_
    refine g_iload_n (pc := 23) hX 0 rfl dJ1_indexOf_4cfef_23 ?_
    refine g_icmp_lt (pc := 24) (tgt := 29) hX (by first | assumption | exact inI_mk (by omega) (by omega)) (by first | assumption | exact inI_mk (by omega) (by omega)) dJ1_indexOf_4cfef_24 (by decide) (fun c_24 => ?_) (fun c_24 => ?_)
    · skip
      refine g_aload_n (pc := 29) hX 2 rfl dJ1_indexOf_4cfef_29 ?_
      refine g_iload_n (pc := 30) hX 3 rfl dJ1_indexOf_4cfef_30 ?_
      refine g_iload_n (pc := 31) hX 1 rfl dJ1_indexOf_4cfef_31 ?_
      refine g_iload_n (pc := 32) hX 0 rfl dJ1_indexOf_4cfef_32 ?_
      refine g_callT1 (pc := 33) (As := [.ref (gw_t w 5), vI (c), vI (0), vI ((6 : Nat))]) (st2 := []) hX (c_J1_indexOfChar_0 (c := c) h0 h1) gJ1_indexOf_4cfef_J1_indexOfChar_4cfef (n := 4) (hw := rfl) (hrc := rfl) (hrs := rfl) (hd := by decide +kernel) (hR := ⟨Nat.le_of_ble_eq_true rfl, Nat.le_of_ble_eq_true rfl⟩) (hn := rfl) (hst := rfl) (hsum := Nat.le_of_ble_eq_true rfl) (hdg := dJ1_indexOf_4cfef_33) ?_
      rintro _ S9 ⟨rfl, e9⟩
      rw [e9]
      clear e9 S9
      refine g_at (pc2 := 36) rfl rfl (st2 := [vI (letZ c)]) rfl (S2 := S) rfl ?_
      refine g_iret (pc := 36) hX hR dJ1_indexOf_4cfef_36 ?_
      exact ⟨rfl, rfl⟩
    · skip
      exact absurd c_24 (by decide)
  · skip
    exact absurd c_4 (by decide)

set_option maxHeartbeats 4000000 in
set_option maxRecDepth 100000 in
theorem c_J0_isLatin1_0 {w : gW} {l : Launch} {S : Nat → va_E}  :
    GM1 w l yJ0_isLatin1_aae02 wsJ0_isLatin1_aae02 { frames := 0, cells := 0, slots := 0, locals := 0 } [.ref (gw_t w 3)] S
      (fun v S' => v = vI (bz true) ∧ S' = S) := by
  refine GM.startJ (own := RJ0) (n := "isLatin1") (d := "()Z") (by decide +kernel) rfl (Nat.le_of_ble_eq_true rfl) ?_
  intro X hX hR hXl
  subst hXl
  refine g_at rfl (lv2 := [(0, .ref (gw_t w 3))]) rfl rfl rfl ?_
  refine g_getsC (pc := 0) hX (List.mem_of_getElem? (i := 1) rfl) dJ0_isLatin1_aae02_0 ?_
  refine g_if_eq (pc := 3) (tgt := 17) hX (by first | assumption | exact inI_mk (by omega) (by omega)) dJ0_isLatin1_aae02_3 (by decide) (fun c_3 => ?_) (fun c_3 => ?_)
  · skip
    exact absurd c_3 (by decide)
  · skip
    refine g_aload_n (pc := 6) hX 0 rfl dJ0_isLatin1_aae02_6 ?_
    refine g_strf (pc := 7) hX (v := vI (0)) (hX.2.2.2.2.2.2.2.2.1.2.2.2.1.2.2.1.1 0 (by decide)).2.1 (List.mem_of_getElem? (i := 2) rfl) dJ0_isLatin1_aae02_7 ?_
    refine g_if_ne (pc := 10) (tgt := 17) hX (by first | assumption | exact inI_mk (by omega) (by omega)) dJ0_isLatin1_aae02_10 (by decide) (fun c_10 => ?_) (fun c_10 => ?_)
    · skip
      exact absurd c_10 (by decide)
    · skip
      refine g_iconst (pc := 13) hX dJ0_isLatin1_aae02_13 ?_
      refine g_goto (pc := 14) (tgt := 18) hX dJ0_isLatin1_aae02_14 (by decide) ?_
      refine g_at rfl rfl (st2 := [vI (bz true)]) rfl rfl ?_
      refine g_zret (pc := 18) hX hR dJ0_isLatin1_aae02_18 ?_
      exact ⟨rfl, rfl⟩

set_option maxHeartbeats 4000000 in
set_option maxRecDepth 100000 in
theorem c_J0_coder_0 {w : gW} {l : Launch} {S : Nat → va_E}  :
    GM1 w l yJ0_coder_7d493 wsJ0_coder_7d493 { frames := 0, cells := 0, slots := 0, locals := 0 } [.ref (gw_t w 3)] S
      (fun v S' => v = vI 0 ∧ S' = S) := by
  refine GM.startJ (own := RJ0) (n := "coder") (d := "()B") (by decide +kernel) rfl (Nat.le_of_ble_eq_true rfl) ?_
  intro X hX hR hXl
  subst hXl
  refine g_at rfl (lv2 := [(0, .ref (gw_t w 3))]) rfl rfl rfl ?_
  refine g_getsC (pc := 0) hX (List.mem_of_getElem? (i := 1) rfl) dJ0_coder_7d493_0 ?_
  refine g_if_eq (pc := 3) (tgt := 13) hX (by first | assumption | exact inI_mk (by omega) (by omega)) dJ0_coder_7d493_3 (by decide) (fun c_3 => ?_) (fun c_3 => ?_)
  · skip
    exact absurd c_3 (by decide)
  · skip
    refine g_aload_n (pc := 6) hX 0 rfl dJ0_coder_7d493_6 ?_
    refine g_strf (pc := 7) hX (v := vI (0)) (hX.2.2.2.2.2.2.2.2.1.2.2.2.1.2.2.1.1 0 (by decide)).2.1 (List.mem_of_getElem? (i := 2) rfl) dJ0_coder_7d493_7 ?_
    refine g_goto (pc := 10) (tgt := 14) hX dJ0_coder_7d493_10 (by decide) ?_
    refine g_bret (pc := 14) hX hR rfl dJ0_coder_7d493_14 ?_
    exact ⟨rfl, rfl⟩

set_option maxHeartbeats 4000000 in
set_option maxRecDepth 100000 in
theorem c_J0_length_0 {w : gW} {l : Launch} {S : Nat → va_E}  :
    GM1 w l yJ0_length_8abf5 wsJ0_length_8abf5 { frames := 1, cells := 0, slots := 0, locals := 20 } [.ref (gw_t w 3)] S
      (fun v S' => v = vI (6 : Nat) ∧ S' = S) := by
  refine GM.startJ (own := RJ0) (n := "length") (d := "()I") (by decide +kernel) rfl (Nat.le_of_ble_eq_true rfl) ?_
  intro X hX hR hXl
  subst hXl
  refine g_at rfl (lv2 := [(0, .ref (gw_t w 3))]) rfl rfl rfl ?_
  refine g_aload_n (pc := 0) hX 0 rfl dJ0_length_8abf5_0 ?_
  refine g_strf (pc := 1) hX (v := .ref (gw_t w 5)) (hX.2.2.2.2.2.2.2.2.1.2.2.2.1.2.2.1.1 0 (by decide)).2.2.1 (List.mem_of_getElem? (i := 1) rfl) dJ0_length_8abf5_1 ?_
  refine g_tblen (pc := 4) hX (N := 6) (hX.2.2.2.2.2.2.2.2.1.2.2.2.1.2.2.1.1 0 (by decide)).2.2.2 dJ0_length_8abf5_4 ?_
  refine g_aload_n (pc := 5) hX 0 rfl dJ0_length_8abf5_5 ?_
  refine g_callK1 (pc := 6) (i := 0) (As := []) (st2 := [vI ((6 : Nat))]) hX (by decide) (c_J0_coder_0) gJ0_length_8abf5_J0_coder_7d493 (n := 0) (hw := rfl) (hrc := rfl) (hrs := rfl) (hd := by decide +kernel) (hR := ⟨Nat.le_of_ble_eq_true rfl, Nat.le_of_ble_eq_true rfl⟩) (hn := rfl) (hst := rfl) (hsum := Nat.le_of_ble_eq_true rfl) (hdg := dJ0_length_8abf5_6) ?_
  rintro _ S9 ⟨rfl, e9⟩
  rw [e9]
  clear e9 S9
  refine g_at (pc2 := 9) rfl rfl (st2 := [vI (0), vI ((6 : Nat))]) rfl (S2 := S) rfl ?_
  refine g_ishr0 (pc := 9) hX dJ0_length_8abf5_9 ?_
  refine g_iret (pc := 10) hX hR dJ0_length_8abf5_10 ?_
  exact ⟨rfl, rfl⟩

set_option maxHeartbeats 4000000 in
set_option maxRecDepth 100000 in
theorem c_J0_indexOf3_0 {w : gW} {l : Launch} {S : Nat → va_E} {c : Int} (h0 : 0 ≤ c) (h1 : c < 128) :
    GM1 w l yJ0_indexOf_7cf53 wsJ0_indexOf_7cf53 { frames := 5, cells := 0, slots := 0, locals := 116 } [.ref (gw_t w 3), vI (c), vI (0)] S
      (fun v S' => v = vI (letZ c) ∧ S' = S) := by
  refine GM.startJ (own := RJ0) (n := "indexOf") (d := "(II)I") (by decide +kernel) rfl (Nat.le_of_ble_eq_true rfl) ?_
  intro X hX hR hXl
  subst hXl
  refine g_at rfl (lv2 := [(0, .ref (gw_t w 3)), (1, vI (c)), (2, vI (0))]) rfl rfl rfl ?_
  refine g_aload_n (pc := 0) hX 0 rfl dJ0_indexOf_7cf53_0 ?_
  refine g_callK1 (pc := 1) (i := 0) (As := []) (st2 := []) hX (by decide) (c_J0_isLatin1_0) gJ0_indexOf_7cf53_J0_isLatin1_aae02 (n := 0) (hw := rfl) (hrc := rfl) (hrs := rfl) (hd := by decide +kernel) (hR := ⟨Nat.le_of_ble_eq_true rfl, Nat.le_of_ble_eq_true rfl⟩) (hn := rfl) (hst := rfl) (hsum := Nat.le_of_ble_eq_true rfl) (hdg := dJ0_indexOf_7cf53_1) ?_
  rintro _ S9 ⟨rfl, e9⟩
  rw [e9]
  clear e9 S9
  refine g_at (pc2 := 4) rfl rfl (st2 := [vI (bz (true))]) rfl (S2 := S) rfl ?_
  refine g_bif_eq (pc := 4) (tgt := 23) hX dJ0_indexOf_7cf53_4 (by decide) (fun c_4 => ?_) (fun c_4 => ?_)
  · skip
    exact absurd c_4 (by decide)
  · skip
    refine g_aload_n (pc := 7) hX 0 rfl dJ0_indexOf_7cf53_7 ?_
    refine g_strf (pc := 8) hX (v := .ref (gw_t w 5)) (hX.2.2.2.2.2.2.2.2.1.2.2.2.1.2.2.1.1 0 (by decide)).2.2.1 (List.mem_of_getElem? (i := 1) rfl) dJ0_indexOf_7cf53_8 ?_
    refine g_iload_n (pc := 11) hX 1 rfl dJ0_indexOf_7cf53_11 ?_
    refine g_iload_n (pc := 12) hX 2 rfl dJ0_indexOf_7cf53_12 ?_
    refine g_aload_n (pc := 13) hX 0 rfl dJ0_indexOf_7cf53_13 ?_
    refine g_callK1 (pc := 14) (i := 0) (As := []) (st2 := [vI (0), vI (c), .ref (gw_t w 5)]) hX (by decide) (c_J0_length_0) gJ0_indexOf_7cf53_J0_length_8abf5 (n := 0) (hw := rfl) (hrc := rfl) (hrs := rfl) (hd := by decide +kernel) (hR := ⟨Nat.le_of_ble_eq_true rfl, Nat.le_of_ble_eq_true rfl⟩) (hn := rfl) (hst := rfl) (hsum := Nat.le_of_ble_eq_true rfl) (hdg := dJ0_indexOf_7cf53_14) ?_
    rintro _ S9 ⟨rfl, e9⟩
    rw [e9]
    clear e9 S9
    refine g_at (pc2 := 17) rfl rfl (st2 := [vI ((6 : Nat)), vI (0), vI (c), .ref (gw_t w 5)]) rfl (S2 := S) rfl ?_
    refine g_callT1 (pc := 17) (As := [.ref (gw_t w 5), vI (c), vI (0), vI ((6 : Nat))]) (st2 := []) hX (c_J1_indexOf_0 (c := c) h0 h1) gJ0_indexOf_7cf53_J1_indexOf_4cfef (n := 4) (hw := rfl) (hrc := rfl) (hrs := rfl) (hd := by decide +kernel) (hR := ⟨Nat.le_of_ble_eq_true rfl, Nat.le_of_ble_eq_true rfl⟩) (hn := rfl) (hst := rfl) (hsum := Nat.le_of_ble_eq_true rfl) (hdg := dJ0_indexOf_7cf53_17) ?_
    rintro _ S9 ⟨rfl, e9⟩
    rw [e9]
    clear e9 S9
    refine g_at (pc2 := 20) rfl rfl (st2 := [vI (letZ c)]) rfl (S2 := S) rfl ?_
    refine g_goto (pc := 20) (tgt := 36) hX dJ0_indexOf_7cf53_20 (by decide) ?_
    refine g_iret (pc := 36) hX hR dJ0_indexOf_7cf53_36 ?_
    exact ⟨rfl, rfl⟩

set_option maxHeartbeats 4000000 in
set_option maxRecDepth 100000 in
theorem c_J0_indexOf2_0 {w : gW} {l : Launch} {S : Nat → va_E} {c : Int} (h0 : 0 ≤ c) (h1 : c < 128) :
    GM1 w l yJ0_indexOf_0f7a4 wsJ0_indexOf_0f7a4 { frames := 6, cells := 0, slots := 0, locals := 138 } [.ref (gw_t w 3), vI (c)] S
      (fun v S' => v = vI (letZ c) ∧ S' = S) := by
  refine GM.startJ (own := RJ0) (n := "indexOf") (d := "(I)I") (by decide +kernel) rfl (Nat.le_of_ble_eq_true rfl) ?_
  intro X hX hR hXl
  subst hXl
  refine g_at rfl (lv2 := [(0, .ref (gw_t w 3)), (1, vI (c))]) rfl rfl rfl ?_
  refine g_aload_n (pc := 0) hX 0 rfl dJ0_indexOf_0f7a4_0 ?_
  refine g_iload_n (pc := 1) hX 1 rfl dJ0_indexOf_0f7a4_1 ?_
  refine g_iconst (pc := 2) hX dJ0_indexOf_0f7a4_2 ?_
  refine g_callK1 (pc := 3) (i := 0) (As := [vI (c), vI (0)]) (st2 := []) hX (by decide) (c_J0_indexOf3_0 (c := c) h0 h1) gJ0_indexOf_0f7a4_J0_indexOf_7cf53 (n := 2) (hw := rfl) (hrc := rfl) (hrs := rfl) (hd := by decide +kernel) (hR := ⟨Nat.le_of_ble_eq_true rfl, Nat.le_of_ble_eq_true rfl⟩) (hn := rfl) (hst := rfl) (hsum := Nat.le_of_ble_eq_true rfl) (hdg := dJ0_indexOf_0f7a4_3) ?_
  rintro _ S9 ⟨rfl, e9⟩
  rw [e9]
  clear e9 S9
  refine g_at (pc2 := 6) rfl rfl (st2 := [vI (letZ c)]) rfl (S2 := S) rfl ?_
  refine g_iret (pc := 6) hX hR dJ0_indexOf_0f7a4_6 ?_
  exact ⟨rfl, rfl⟩

set_option maxHeartbeats 4000000 in
set_option maxRecDepth 100000 in
theorem c_J1_indexOfChar_1 {w : gW} {l : Launch} {S : Nat → va_E} {c : Int} (h0 : 0 ≤ c) (h1 : c < 128) :
    GM1 w l yJ1_indexOfChar_4cfef wsJ1_indexOfChar_4cfef { frames := 0, cells := 0, slots := 0, locals := 0 } [.ref (gw_t w 6), vI (c), vI (0), vI ((3 : Nat))] S
      (fun v S' => v = vI (relZ c) ∧ S' = S) := by
  refine GM.startJ (own := RJ1) (n := "indexOfChar") (d := "([BIII)I") (by decide +kernel) rfl (Nat.le_of_ble_eq_true rfl) ?_
  intro X hX hR hXl
  subst hXl
  refine g_at rfl (lv2 := [(0, .ref (gw_t w 6)), (1, vI (c)), (2, vI (0)), (3, vI ((3 : Nat)))]) rfl rfl rfl ?_
  refine g_iload_n (pc := 0) hX 1 rfl dJ1_indexOfChar_4cfef_0 ?_
  refine g_i2b (pc := 1) hX (z := c) (ch_i2b h0 h1) dJ1_indexOfChar_4cfef_1 ?_
  refine g_istore (pc := 2) hX (lv2 := [(4, vI (c)), (0, .ref (gw_t w 6)), (1, vI (c)), (2, vI (0)), (3, vI ((3 : Nat)))]) (by decide) rfl dJ1_indexOfChar_4cfef_2 ?_
  refine g_iload_n (pc := 4) hX 3 rfl dJ1_indexOfChar_4cfef_4 ?_
  refine g_istore (pc := 5) hX (lv2 := [(5, vI (0)), (4, vI (c)), (0, .ref (gw_t w 6)), (1, vI (c)), (2, vI (0)), (3, vI ((3 : Nat)))]) (by decide) rfl dJ1_indexOfChar_4cfef_5 ?_
  have loop : ∀ (n0 : Nat) (j : Int), 0 ≤ j → j ≤ (3 : Nat) → (3 : Nat) - j < n0 → (bfi txB c ((3 : Nat) - j : Int).toNat j = relZ c) → G w { frames := 0, cells := 0, slots := 0, locals := 0 } X 6 7 [(5, vI (j)), (0, .ref (gw_t w 6)), (1, vI (c)), (3, vI ((3 : Nat))), (4, vI (c))] [] S := by
    intro n0
    induction n0 with
    | zero => intro j  h1j h2j h3j; exact absurd h3j (by omega)
    | succ n0 ihloop =>
      intro j  h1j h2j h3j hb
      refine g_iload (pc := 7) hX 0 rfl dJ1_indexOfChar_4cfef_7 ?_
      refine g_iload_n (pc := 9) hX 3 rfl dJ1_indexOfChar_4cfef_9 ?_
      refine g_icmp_ge (pc := 10) (tgt := 31) hX (by first | assumption | exact inI_mk (by omega) (by omega)) (by first | assumption | exact inI_mk (by omega) (by omega)) dJ1_indexOfChar_4cfef_10 (by decide) (fun c_10 => ?_) (fun c_10 => ?_)
      · skip
        refine g_iconst (pc := 31) hX dJ1_indexOfChar_4cfef_31 ?_
        refine g_iret (pc := 32) hX hR dJ1_indexOfChar_4cfef_32 ?_
        rw [show ((3 : Nat) - j : Int).toNat = 0 by omega] at hb
        exact ⟨vI_c hb, rfl⟩
      · skip
        refine g_aload_n (pc := 13) hX 1 rfl dJ1_indexOfChar_4cfef_13 ?_
        refine g_iload (pc := 14) hX 0 rfl dJ1_indexOfChar_4cfef_14 ?_
        refine g_tbald (pc := 16) hX (N := 3) (hX.2.2.2.2.2.2.2.2.1.2.2.2.1.2.2.1.1 1 (by decide)).2.2.2 txB_e h1j (by omega) (by decide) dJ1_indexOfChar_4cfef_16 ?_
        refine g_iload (pc := 17) hX 4 rfl dJ1_indexOfChar_4cfef_17 ?_
        refine g_icmp_ne (pc := 19) (tgt := 25) hX (txB_in j) (by first | assumption | exact inI_mk (by omega) (by omega)) dJ1_indexOfChar_4cfef_19 (by decide) (fun c_19 => ?_) (fun c_19 => ?_)
        · skip
          refine g_iinc (pc := 25) hX (lv2 := [(5, vI (j + 1)), (0, .ref (gw_t w 6)), (1, vI (c)), (3, vI ((3 : Nat))), (4, vI (c))]) 0 rfl (by decide) rfl dJ1_indexOfChar_4cfef_25 ?_
          refine g_goto (pc := 28) (tgt := 7) hX dJ1_indexOfChar_4cfef_28 (by decide) ?_
          refine g_sub (lv2 := [(5, vI (j + 1)), (0, .ref (gw_t w 6)), (1, vI (c)), (3, vI ((3 : Nat))), (4, vI (c))]) [0, 1, 2, 3, 4] rfl ?_
          refine g_at rfl (lv2 := [(5, vI (j + 1)), (0, .ref (gw_t w 6)), (1, vI (c)), (3, vI ((3 : Nat))), (4, vI (c))]) (rfl) rfl (S2 := S) (rfl) ?_
          exact ihloop (j + 1)  (by omega) (by omega) (by omega) (by rw [show ((3 : Nat) - j : Int).toNat = ((3 : Nat) - (j + 1) : Int).toNat + 1 by omega] at hb; rw [← hb]; exact (if_neg c_19).symm)
        · skip
          refine g_iload (pc := 22) hX 0 rfl dJ1_indexOfChar_4cfef_22 ?_
          refine g_iret (pc := 24) hX hR dJ1_indexOfChar_4cfef_24 ?_
          rw [show ((3 : Nat) - j : Int).toNat = ((3 : Nat) - (j + 1) : Int).toNat + 1 by omega] at hb
          exact ⟨vI_c (by rw [← hb]; exact (if_pos c_19).symm), rfl⟩
  refine g_sub (lv2 := [(5, vI (0)), (0, .ref (gw_t w 6)), (1, vI (c)), (3, vI ((3 : Nat))), (4, vI (c))]) [0, 2, 3, 5, 1] rfl ?_
  refine g_at rfl (lv2 := [(5, vI (0)), (0, .ref (gw_t w 6)), (1, vI (c)), (3, vI ((3 : Nat))), (4, vI (c))]) (rfl) rfl (S2 := S) (rfl) ?_
  exact loop (((3 : Nat) : Int) - 0 + 1).toNat 0  (by omega) (by omega) (by omega) (relZ_e c)

set_option maxHeartbeats 4000000 in
set_option maxRecDepth 100000 in
theorem c_J1_indexOf_1 {w : gW} {l : Launch} {S : Nat → va_E} {c : Int} (h0 : 0 ≤ c) (h1 : c < 128) :
    GM1 w l yJ1_indexOf_4cfef wsJ1_indexOf_4cfef { frames := 1, cells := 0, slots := 0, locals := 25 } [.ref (gw_t w 6), vI (c), vI (0), vI ((3 : Nat))] S
      (fun v S' => v = vI (relZ c) ∧ S' = S) := by
  refine GM.startJ (own := RJ1) (n := "indexOf") (d := "([BIII)I") (by decide +kernel) rfl (Nat.le_of_ble_eq_true rfl) ?_
  intro X hX hR hXl
  subst hXl
  refine g_at rfl (lv2 := [(0, .ref (gw_t w 6)), (1, vI (c)), (2, vI (0)), (3, vI ((3 : Nat)))]) rfl rfl rfl ?_
  refine g_iload_n (pc := 0) hX 1 rfl dJ1_indexOf_4cfef_0 ?_
  refine g_callT1 (pc := 1) (As := [vI (c)]) (st2 := []) hX (c_J1_canEncode_9a6ad (c := c) h0 h1) gJ1_indexOf_4cfef_J1_canEncode_9a6ad (n := 1) (hw := rfl) (hrc := rfl) (hrs := rfl) (hd := by decide +kernel) (hR := ⟨Nat.le_of_ble_eq_true rfl, Nat.le_of_ble_eq_true rfl⟩) (hn := rfl) (hst := rfl) (hsum := Nat.le_of_ble_eq_true rfl) (hdg := dJ1_indexOf_4cfef_1) ?_
  rintro _ S9 ⟨rfl, e9⟩
  rw [e9]
  clear e9 S9
  refine g_at (pc2 := 4) rfl rfl (st2 := [vI (bz (true))]) rfl (S2 := S) rfl ?_
  refine g_bif_ne (pc := 4) (tgt := 9) hX dJ1_indexOf_4cfef_4 (by decide) (fun c_4 => ?_) (fun c_4 => ?_)
  · skip
    refine g_iload_n (pc := 9) hX 2 rfl dJ1_indexOf_4cfef_9 ?_
    refine g_iconst (pc := 10) hX dJ1_indexOf_4cfef_10 ?_
    refine g_mmax (pc := 11) hX (by first | assumption | exact inI_mk (by omega) (by omega)) (by first | assumption | exact inI_mk (by omega) (by omega)) (List.mem_of_getElem? (i := 1) rfl) (List.mem_of_getElem? (i := 2) rfl) (List.mem_of_getElem? (i := 3) rfl) (List.mem_of_getElem? (i := 4) rfl) (Nat.le_of_ble_eq_true rfl) (Nat.le_of_ble_eq_true rfl) dJ1_indexOf_4cfef_11 ?_
    refine g_at rfl rfl (st2 := [vI (0)]) (by rfl) rfl ?_
    refine g_istore_n (pc := 14) hX (lv2 := [(2, vI (0)), (0, .ref (gw_t w 6)), (1, vI (c)), (3, vI ((3 : Nat)))]) rfl (by decide) rfl dJ1_indexOf_4cfef_14 ?_
    refine g_iload_n (pc := 15) hX 3 rfl dJ1_indexOf_4cfef_15 ?_
    refine g_aload_n (pc := 16) hX 1 rfl dJ1_indexOf_4cfef_16 ?_
    refine g_tblen (pc := 17) hX (N := 3) (hX.2.2.2.2.2.2.2.2.1.2.2.2.1.2.2.1.1 1 (by decide)).2.2.2 dJ1_indexOf_4cfef_17 ?_
    refine g_mmin (pc := 18) hX (by first | assumption | exact inI_mk (by omega) (by omega)) (by first | assumption | exact inI_mk (by omega) (by omega)) (List.mem_of_getElem? (i := 5) rfl) (List.mem_of_getElem? (i := 6) rfl) (List.mem_of_getElem? (i := 3) rfl) (List.mem_of_getElem? (i := 7) rfl) (Nat.le_of_ble_eq_true rfl) (Nat.le_of_ble_eq_true rfl) dJ1_indexOf_4cfef_18 ?_
    refine g_at rfl rfl (st2 := [vI ((3 : Nat))]) (by rfl) rfl ?_
    refine g_istore_n (pc := 21) hX (lv2 := [(3, vI ((3 : Nat))), (2, vI (0)), (0, .ref (gw_t w 6)), (1, vI (c))]) rfl (by decide) rfl dJ1_indexOf_4cfef_21 ?_
    refine g_iload_n (pc := 22) hX 1 rfl dJ1_indexOf_4cfef_22 ?_
    refine g_iload_n (pc := 23) hX 0 rfl dJ1_indexOf_4cfef_23 ?_
    refine g_icmp_lt (pc := 24) (tgt := 29) hX (by first | assumption | exact inI_mk (by omega) (by omega)) (by first | assumption | exact inI_mk (by omega) (by omega)) dJ1_indexOf_4cfef_24 (by decide) (fun c_24 => ?_) (fun c_24 => ?_)
    · skip
      refine g_aload_n (pc := 29) hX 2 rfl dJ1_indexOf_4cfef_29 ?_
      refine g_iload_n (pc := 30) hX 3 rfl dJ1_indexOf_4cfef_30 ?_
      refine g_iload_n (pc := 31) hX 1 rfl dJ1_indexOf_4cfef_31 ?_
      refine g_iload_n (pc := 32) hX 0 rfl dJ1_indexOf_4cfef_32 ?_
      refine g_callT1 (pc := 33) (As := [.ref (gw_t w 6), vI (c), vI (0), vI ((3 : Nat))]) (st2 := []) hX (c_J1_indexOfChar_1 (c := c) h0 h1) gJ1_indexOf_4cfef_J1_indexOfChar_4cfef (n := 4) (hw := rfl) (hrc := rfl) (hrs := rfl) (hd := by decide +kernel) (hR := ⟨Nat.le_of_ble_eq_true rfl, Nat.le_of_ble_eq_true rfl⟩) (hn := rfl) (hst := rfl) (hsum := Nat.le_of_ble_eq_true rfl) (hdg := dJ1_indexOf_4cfef_33) ?_
      rintro _ S9 ⟨rfl, e9⟩
      rw [e9]
      clear e9 S9
      refine g_at (pc2 := 36) rfl rfl (st2 := [vI (relZ c)]) rfl (S2 := S) rfl ?_
      refine g_iret (pc := 36) hX hR dJ1_indexOf_4cfef_36 ?_
      exact ⟨rfl, rfl⟩
    · skip
      exact absurd c_24 (by decide)
  · skip
    exact absurd c_4 (by decide)

set_option maxHeartbeats 4000000 in
set_option maxRecDepth 100000 in
theorem c_J0_isLatin1_1 {w : gW} {l : Launch} {S : Nat → va_E}  :
    GM1 w l yJ0_isLatin1_aae02 wsJ0_isLatin1_aae02 { frames := 0, cells := 0, slots := 0, locals := 0 } [.ref (gw_t w 4)] S
      (fun v S' => v = vI (bz true) ∧ S' = S) := by
  refine GM.startJ (own := RJ0) (n := "isLatin1") (d := "()Z") (by decide +kernel) rfl (Nat.le_of_ble_eq_true rfl) ?_
  intro X hX hR hXl
  subst hXl
  refine g_at rfl (lv2 := [(0, .ref (gw_t w 4))]) rfl rfl rfl ?_
  refine g_getsC (pc := 0) hX (List.mem_of_getElem? (i := 1) rfl) dJ0_isLatin1_aae02_0 ?_
  refine g_if_eq (pc := 3) (tgt := 17) hX (by first | assumption | exact inI_mk (by omega) (by omega)) dJ0_isLatin1_aae02_3 (by decide) (fun c_3 => ?_) (fun c_3 => ?_)
  · skip
    exact absurd c_3 (by decide)
  · skip
    refine g_aload_n (pc := 6) hX 0 rfl dJ0_isLatin1_aae02_6 ?_
    refine g_strf (pc := 7) hX (v := vI (0)) (hX.2.2.2.2.2.2.2.2.1.2.2.2.1.2.2.1.1 1 (by decide)).2.1 (List.mem_of_getElem? (i := 2) rfl) dJ0_isLatin1_aae02_7 ?_
    refine g_if_ne (pc := 10) (tgt := 17) hX (by first | assumption | exact inI_mk (by omega) (by omega)) dJ0_isLatin1_aae02_10 (by decide) (fun c_10 => ?_) (fun c_10 => ?_)
    · skip
      exact absurd c_10 (by decide)
    · skip
      refine g_iconst (pc := 13) hX dJ0_isLatin1_aae02_13 ?_
      refine g_goto (pc := 14) (tgt := 18) hX dJ0_isLatin1_aae02_14 (by decide) ?_
      refine g_at rfl rfl (st2 := [vI (bz true)]) rfl rfl ?_
      refine g_zret (pc := 18) hX hR dJ0_isLatin1_aae02_18 ?_
      exact ⟨rfl, rfl⟩

set_option maxHeartbeats 4000000 in
set_option maxRecDepth 100000 in
theorem c_J0_coder_1 {w : gW} {l : Launch} {S : Nat → va_E}  :
    GM1 w l yJ0_coder_7d493 wsJ0_coder_7d493 { frames := 0, cells := 0, slots := 0, locals := 0 } [.ref (gw_t w 4)] S
      (fun v S' => v = vI 0 ∧ S' = S) := by
  refine GM.startJ (own := RJ0) (n := "coder") (d := "()B") (by decide +kernel) rfl (Nat.le_of_ble_eq_true rfl) ?_
  intro X hX hR hXl
  subst hXl
  refine g_at rfl (lv2 := [(0, .ref (gw_t w 4))]) rfl rfl rfl ?_
  refine g_getsC (pc := 0) hX (List.mem_of_getElem? (i := 1) rfl) dJ0_coder_7d493_0 ?_
  refine g_if_eq (pc := 3) (tgt := 13) hX (by first | assumption | exact inI_mk (by omega) (by omega)) dJ0_coder_7d493_3 (by decide) (fun c_3 => ?_) (fun c_3 => ?_)
  · skip
    exact absurd c_3 (by decide)
  · skip
    refine g_aload_n (pc := 6) hX 0 rfl dJ0_coder_7d493_6 ?_
    refine g_strf (pc := 7) hX (v := vI (0)) (hX.2.2.2.2.2.2.2.2.1.2.2.2.1.2.2.1.1 1 (by decide)).2.1 (List.mem_of_getElem? (i := 2) rfl) dJ0_coder_7d493_7 ?_
    refine g_goto (pc := 10) (tgt := 14) hX dJ0_coder_7d493_10 (by decide) ?_
    refine g_bret (pc := 14) hX hR rfl dJ0_coder_7d493_14 ?_
    exact ⟨rfl, rfl⟩

set_option maxHeartbeats 4000000 in
set_option maxRecDepth 100000 in
theorem c_J0_length_1 {w : gW} {l : Launch} {S : Nat → va_E}  :
    GM1 w l yJ0_length_8abf5 wsJ0_length_8abf5 { frames := 1, cells := 0, slots := 0, locals := 20 } [.ref (gw_t w 4)] S
      (fun v S' => v = vI (3 : Nat) ∧ S' = S) := by
  refine GM.startJ (own := RJ0) (n := "length") (d := "()I") (by decide +kernel) rfl (Nat.le_of_ble_eq_true rfl) ?_
  intro X hX hR hXl
  subst hXl
  refine g_at rfl (lv2 := [(0, .ref (gw_t w 4))]) rfl rfl rfl ?_
  refine g_aload_n (pc := 0) hX 0 rfl dJ0_length_8abf5_0 ?_
  refine g_strf (pc := 1) hX (v := .ref (gw_t w 6)) (hX.2.2.2.2.2.2.2.2.1.2.2.2.1.2.2.1.1 1 (by decide)).2.2.1 (List.mem_of_getElem? (i := 1) rfl) dJ0_length_8abf5_1 ?_
  refine g_tblen (pc := 4) hX (N := 3) (hX.2.2.2.2.2.2.2.2.1.2.2.2.1.2.2.1.1 1 (by decide)).2.2.2 dJ0_length_8abf5_4 ?_
  refine g_aload_n (pc := 5) hX 0 rfl dJ0_length_8abf5_5 ?_
  refine g_callK1 (pc := 6) (i := 1) (As := []) (st2 := [vI ((3 : Nat))]) hX (by decide) (c_J0_coder_1) gJ0_length_8abf5_J0_coder_7d493 (n := 0) (hw := rfl) (hrc := rfl) (hrs := rfl) (hd := by decide +kernel) (hR := ⟨Nat.le_of_ble_eq_true rfl, Nat.le_of_ble_eq_true rfl⟩) (hn := rfl) (hst := rfl) (hsum := Nat.le_of_ble_eq_true rfl) (hdg := dJ0_length_8abf5_6) ?_
  rintro _ S9 ⟨rfl, e9⟩
  rw [e9]
  clear e9 S9
  refine g_at (pc2 := 9) rfl rfl (st2 := [vI (0), vI ((3 : Nat))]) rfl (S2 := S) rfl ?_
  refine g_ishr0 (pc := 9) hX dJ0_length_8abf5_9 ?_
  refine g_iret (pc := 10) hX hR dJ0_length_8abf5_10 ?_
  exact ⟨rfl, rfl⟩

set_option maxHeartbeats 4000000 in
set_option maxRecDepth 100000 in
theorem c_J0_indexOf3_1 {w : gW} {l : Launch} {S : Nat → va_E} {c : Int} (h0 : 0 ≤ c) (h1 : c < 128) :
    GM1 w l yJ0_indexOf_7cf53 wsJ0_indexOf_7cf53 { frames := 5, cells := 0, slots := 0, locals := 116 } [.ref (gw_t w 4), vI (c), vI (0)] S
      (fun v S' => v = vI (relZ c) ∧ S' = S) := by
  refine GM.startJ (own := RJ0) (n := "indexOf") (d := "(II)I") (by decide +kernel) rfl (Nat.le_of_ble_eq_true rfl) ?_
  intro X hX hR hXl
  subst hXl
  refine g_at rfl (lv2 := [(0, .ref (gw_t w 4)), (1, vI (c)), (2, vI (0))]) rfl rfl rfl ?_
  refine g_aload_n (pc := 0) hX 0 rfl dJ0_indexOf_7cf53_0 ?_
  refine g_callK1 (pc := 1) (i := 1) (As := []) (st2 := []) hX (by decide) (c_J0_isLatin1_1) gJ0_indexOf_7cf53_J0_isLatin1_aae02 (n := 0) (hw := rfl) (hrc := rfl) (hrs := rfl) (hd := by decide +kernel) (hR := ⟨Nat.le_of_ble_eq_true rfl, Nat.le_of_ble_eq_true rfl⟩) (hn := rfl) (hst := rfl) (hsum := Nat.le_of_ble_eq_true rfl) (hdg := dJ0_indexOf_7cf53_1) ?_
  rintro _ S9 ⟨rfl, e9⟩
  rw [e9]
  clear e9 S9
  refine g_at (pc2 := 4) rfl rfl (st2 := [vI (bz (true))]) rfl (S2 := S) rfl ?_
  refine g_bif_eq (pc := 4) (tgt := 23) hX dJ0_indexOf_7cf53_4 (by decide) (fun c_4 => ?_) (fun c_4 => ?_)
  · skip
    exact absurd c_4 (by decide)
  · skip
    refine g_aload_n (pc := 7) hX 0 rfl dJ0_indexOf_7cf53_7 ?_
    refine g_strf (pc := 8) hX (v := .ref (gw_t w 6)) (hX.2.2.2.2.2.2.2.2.1.2.2.2.1.2.2.1.1 1 (by decide)).2.2.1 (List.mem_of_getElem? (i := 1) rfl) dJ0_indexOf_7cf53_8 ?_
    refine g_iload_n (pc := 11) hX 1 rfl dJ0_indexOf_7cf53_11 ?_
    refine g_iload_n (pc := 12) hX 2 rfl dJ0_indexOf_7cf53_12 ?_
    refine g_aload_n (pc := 13) hX 0 rfl dJ0_indexOf_7cf53_13 ?_
    refine g_callK1 (pc := 14) (i := 1) (As := []) (st2 := [vI (0), vI (c), .ref (gw_t w 6)]) hX (by decide) (c_J0_length_1) gJ0_indexOf_7cf53_J0_length_8abf5 (n := 0) (hw := rfl) (hrc := rfl) (hrs := rfl) (hd := by decide +kernel) (hR := ⟨Nat.le_of_ble_eq_true rfl, Nat.le_of_ble_eq_true rfl⟩) (hn := rfl) (hst := rfl) (hsum := Nat.le_of_ble_eq_true rfl) (hdg := dJ0_indexOf_7cf53_14) ?_
    rintro _ S9 ⟨rfl, e9⟩
    rw [e9]
    clear e9 S9
    refine g_at (pc2 := 17) rfl rfl (st2 := [vI ((3 : Nat)), vI (0), vI (c), .ref (gw_t w 6)]) rfl (S2 := S) rfl ?_
    refine g_callT1 (pc := 17) (As := [.ref (gw_t w 6), vI (c), vI (0), vI ((3 : Nat))]) (st2 := []) hX (c_J1_indexOf_1 (c := c) h0 h1) gJ0_indexOf_7cf53_J1_indexOf_4cfef (n := 4) (hw := rfl) (hrc := rfl) (hrs := rfl) (hd := by decide +kernel) (hR := ⟨Nat.le_of_ble_eq_true rfl, Nat.le_of_ble_eq_true rfl⟩) (hn := rfl) (hst := rfl) (hsum := Nat.le_of_ble_eq_true rfl) (hdg := dJ0_indexOf_7cf53_17) ?_
    rintro _ S9 ⟨rfl, e9⟩
    rw [e9]
    clear e9 S9
    refine g_at (pc2 := 20) rfl rfl (st2 := [vI (relZ c)]) rfl (S2 := S) rfl ?_
    refine g_goto (pc := 20) (tgt := 36) hX dJ0_indexOf_7cf53_20 (by decide) ?_
    refine g_iret (pc := 36) hX hR dJ0_indexOf_7cf53_36 ?_
    exact ⟨rfl, rfl⟩

set_option maxHeartbeats 4000000 in
set_option maxRecDepth 100000 in
theorem c_J0_indexOf2_1 {w : gW} {l : Launch} {S : Nat → va_E} {c : Int} (h0 : 0 ≤ c) (h1 : c < 128) :
    GM1 w l yJ0_indexOf_0f7a4 wsJ0_indexOf_0f7a4 { frames := 6, cells := 0, slots := 0, locals := 138 } [.ref (gw_t w 4), vI (c)] S
      (fun v S' => v = vI (relZ c) ∧ S' = S) := by
  refine GM.startJ (own := RJ0) (n := "indexOf") (d := "(I)I") (by decide +kernel) rfl (Nat.le_of_ble_eq_true rfl) ?_
  intro X hX hR hXl
  subst hXl
  refine g_at rfl (lv2 := [(0, .ref (gw_t w 4)), (1, vI (c))]) rfl rfl rfl ?_
  refine g_aload_n (pc := 0) hX 0 rfl dJ0_indexOf_0f7a4_0 ?_
  refine g_iload_n (pc := 1) hX 1 rfl dJ0_indexOf_0f7a4_1 ?_
  refine g_iconst (pc := 2) hX dJ0_indexOf_0f7a4_2 ?_
  refine g_callK1 (pc := 3) (i := 1) (As := [vI (c), vI (0)]) (st2 := []) hX (by decide) (c_J0_indexOf3_1 (c := c) h0 h1) gJ0_indexOf_0f7a4_J0_indexOf_7cf53 (n := 2) (hw := rfl) (hrc := rfl) (hrs := rfl) (hd := by decide +kernel) (hR := ⟨Nat.le_of_ble_eq_true rfl, Nat.le_of_ble_eq_true rfl⟩) (hn := rfl) (hst := rfl) (hsum := Nat.le_of_ble_eq_true rfl) (hdg := dJ0_indexOf_0f7a4_3) ?_
  rintro _ S9 ⟨rfl, e9⟩
  rw [e9]
  clear e9 S9
  refine g_at (pc2 := 6) rfl rfl (st2 := [vI (relZ c)]) rfl (S2 := S) rfl ?_
  refine g_iret (pc := 6) hX hR dJ0_indexOf_0f7a4_6 ?_
  exact ⟨rfl, rfl⟩
