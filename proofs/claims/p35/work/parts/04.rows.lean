section GR
variable {w : gW} {R : Room} {X : gX} {nL pc : Nat} {cc : ByteArray} {own : String} {Ts : List Cond} {lv : List (Nat × Value)} {st : List Value} {S : Nat → va_E}
theorem g_iconst (hX : gOK w R X cc nL own Ts) {n : Int} (hdg : decode cc pc = .ok (.iconst n, 1)) (k : G w R X nL (pc + 1) lv (vI n :: st) S) : G w R X nL pc lv st S := by
  intro H locs ls hP hS hl
  refine lv_iconst hX.1 hX.2.1 hdg rfl ?_
  exact k H locs ls hP hS hl
theorem g_bipush (hX : gOK w R X cc nL own Ts) {n : Int} (hn : -128 ≤ n ∧ n ≤ 127) (hdg : decode cc pc = .ok (.bipush n, 2)) (k : G w R X nL (pc + 2) lv (vI n :: st) S) : G w R X nL pc lv st S := by
  intro H locs ls hP hS hl
  refine lv_bipush hX.1 hX.2.1 hdg (iI_b hn) ?_
  exact k H locs ls hP hS hl
theorem g_sipush (hX : gOK w R X cc nL own Ts) {n : Int} (hn : -32768 ≤ n ∧ n ≤ 32767) (hdg : decode cc pc = .ok (.sipush n, 3)) (k : G w R X nL (pc + 3) lv (vI n :: st) S) : G w R X nL pc lv st S := by
  intro H locs ls hP hS hl
  refine lv_sipush hX.1 hX.2.1 hdg (iI_s hn) ?_
  exact k H locs ls hP hS hl
theorem g_lconst (hX : gOK w R X cc nL own Ts) {n : Fin 2} {z : Int} (hz : Int64.ofNat (n : Nat) = lI z) (hdg : decode cc pc = .ok (.lconst n, 1)) (k : G w R X nL (pc + 1) lv (vL z :: st) S) : G w R X nL pc lv st S := by
  intro H locs ls hP hS hl
  refine lv_lconst hX.1 hX.2.1 hdg hz ?_
  exact k H locs ls hP hS hl
theorem g_ldc (hX : gOK w R X cc nL own Ts) {index : Nat} {v : Int32} {z : Int} (hm : Cond.constant own index v ∈ Ts) (hz : v = iI z) (hdg : decode cc pc = .ok (.ldc index, 2)) (k : G w R X nL (pc + 2) lv (vI z :: st) S) : G w R X nL pc lv st S := by
  intro H locs ls hP hS hl
  subst hz
  exact lv_ldc hX.1 hX.2.1 hX.2.2.2.1 (hX.2.2.2.2.1 _ hm) hdg (k H locs ls hP hS hl)
theorem g_ldcw (hX : gOK w R X cc nL own Ts) {index : Nat} {v : Int32} {z : Int} (hm : Cond.constant own index v ∈ Ts) (hz : v = iI z) (hdg : decode cc pc = .ok (.ldc_w index, 3)) (k : G w R X nL (pc + 3) lv (vI z :: st) S) : G w R X nL pc lv st S := by
  intro H locs ls hP hS hl
  subst hz
  exact lv_ldcw hX.1 hX.2.1 hX.2.2.2.1 (hX.2.2.2.2.1 _ hm) hdg (k H locs ls hP hS hl)
theorem g_ldc2 (hX : gOK w R X cc nL own Ts) {index : Nat} {v : Int64} {z : Int} (hm : Cond.constantLong own index v ∈ Ts) (hz : v = lI z) (hdg : decode cc pc = .ok (.ldc2_w index, 3)) (k : G w R X nL (pc + 3) lv (vL z :: st) S) : G w R X nL pc lv st S := by
  intro H locs ls hP hS hl
  subst hz
  exact lv_ldc2 hX.1 hX.2.1 hX.2.2.2.1 (hX.2.2.2.2.1 _ hm) hdg (k H locs ls hP hS hl)
theorem g_iload_n (hX : gOK w R X cc nL own Ts) {q : Fin 4} {x : Int32} (j : Nat) (hj : lv[j]? = some ((q : Nat), .int x)) (hdg : decode cc pc = .ok (.iload_n q, 1)) (k : G w R X nL (pc + 1) lv (.int x :: st) S) : G w R X nL pc lv st S := by
  intro H locs ls hP hS hl
  exact lv_iload_n hX.1 hX.2.1 hdg rfl (lv_at hl j hj) (k H locs ls hP hS hl)
theorem g_iload (hX : gOK w R X cc nL own Ts) {i : Nat} {x : Int32} (j : Nat) (hj : lv[j]? = some (i, .int x)) (hdg : decode cc pc = .ok (.iload i, 2)) (k : G w R X nL (pc + 2) lv (.int x :: st) S) : G w R X nL pc lv st S := by
  intro H locs ls hP hS hl
  exact lv_iload hX.1 hX.2.1 hdg (lv_at hl j hj) (k H locs ls hP hS hl)
theorem g_lload_n (hX : gOK w R X cc nL own Ts) {q : Fin 4} {x : Int64} (j : Nat) (hj : lv[j]? = some ((q : Nat), .long x)) (hdg : decode cc pc = .ok (.lload_n q, 1)) (k : G w R X nL (pc + 1) lv (.long x :: st) S) : G w R X nL pc lv st S := by
  intro H locs ls hP hS hl
  exact lv_lload_n hX.1 hX.2.1 hdg rfl (lv_at hl j hj) (k H locs ls hP hS hl)
theorem g_lload (hX : gOK w R X cc nL own Ts) {i : Nat} {x : Int64} (j : Nat) (hj : lv[j]? = some (i, .long x)) (hdg : decode cc pc = .ok (.lload i, 2)) (k : G w R X nL (pc + 2) lv (.long x :: st) S) : G w R X nL pc lv st S := by
  intro H locs ls hP hS hl
  exact lv_lload hX.1 hX.2.1 hdg (lv_at hl j hj) (k H locs ls hP hS hl)
theorem g_aload_n (hX : gOK w R X cc nL own Ts) {q : Fin 4} {x : Nat} (j : Nat) (hj : lv[j]? = some ((q : Nat), .ref x)) (hdg : decode cc pc = .ok (.aload_n q, 1)) (k : G w R X nL (pc + 1) lv (.ref x :: st) S) : G w R X nL pc lv st S := by
  intro H locs ls hP hS hl
  exact lv_aload_n hX.1 hX.2.1 hdg rfl (lv_at hl j hj) (k H locs ls hP hS hl)
theorem g_aload (hX : gOK w R X cc nL own Ts) {i : Nat} {x : Nat} (j : Nat) (hj : lv[j]? = some (i, .ref x)) (hdg : decode cc pc = .ok (.aload i, 2)) (k : G w R X nL (pc + 2) lv (.ref x :: st) S) : G w R X nL pc lv st S := by
  intro H locs ls hP hS hl
  exact lv_aload hX.1 hX.2.1 hdg (lv_at hl j hj) (k H locs ls hP hS hl)
theorem g_istore_n (hX : gOK w R X cc nL own Ts) {q : Fin 4} {i : Nat} {x : Int32} {lv2 : List (Nat × Value)} (hi : (q : Nat) = i) (hn : i < nL) (hl2 : (i, Value.int x) :: lv.filter (fun q => !(q.1 == i) && !(q.1 + 1 == i && q.2.category == 2)) = lv2) (hdg : decode cc pc = .ok (.istore_n q, 1)) (k : G w R X nL (pc + 1) lv2 st S) : G w R X nL pc lv (.int x :: st) S := by
  intro H locs ls hP hS hl
  exact lv_istore_n hX.1 hX.2.1 hdg hi hl hn hl2 (fun ls2 hl3 => k H locs ls2 hP hS hl3)
theorem g_istore (hX : gOK w R X cc nL own Ts) {i : Nat} {x : Int32} {lv2 : List (Nat × Value)} (hn : i < nL) (hl2 : (i, Value.int x) :: lv.filter (fun q => !(q.1 == i) && !(q.1 + 1 == i && q.2.category == 2)) = lv2) (hdg : decode cc pc = .ok (.istore i, 2)) (k : G w R X nL (pc + 2) lv2 st S) : G w R X nL pc lv (.int x :: st) S := by
  intro H locs ls hP hS hl
  exact lv_istore hX.1 hX.2.1 hdg hl hn hl2 (fun ls2 hl3 => k H locs ls2 hP hS hl3)
theorem g_astore_n (hX : gOK w R X cc nL own Ts) {q : Fin 4} {i : Nat} {x : Nat} {lv2 : List (Nat × Value)} (hi : (q : Nat) = i) (hn : i < nL) (hl2 : (i, Value.ref x) :: lv.filter (fun q => !(q.1 == i) && !(q.1 + 1 == i && q.2.category == 2)) = lv2) (hdg : decode cc pc = .ok (.astore_n q, 1)) (k : G w R X nL (pc + 1) lv2 st S) : G w R X nL pc lv (.ref x :: st) S := by
  intro H locs ls hP hS hl
  exact lv_astore_n hX.1 hX.2.1 hdg hi hl hn hl2 (fun ls2 hl3 => k H locs ls2 hP hS hl3)
theorem g_astore (hX : gOK w R X cc nL own Ts) {i : Nat} {x : Nat} {lv2 : List (Nat × Value)} (hn : i < nL) (hl2 : (i, Value.ref x) :: lv.filter (fun q => !(q.1 == i) && !(q.1 + 1 == i && q.2.category == 2)) = lv2) (hdg : decode cc pc = .ok (.astore i, 2)) (k : G w R X nL (pc + 2) lv2 st S) : G w R X nL pc lv (.ref x :: st) S := by
  intro H locs ls hP hS hl
  exact lv_astore hX.1 hX.2.1 hdg hl hn hl2 (fun ls2 hl3 => k H locs ls2 hP hS hl3)
theorem g_lstore_n (hX : gOK w R X cc nL own Ts) {q : Fin 4} {i : Nat} {x : Int64} {lv2 : List (Nat × Value)} (hi : (q : Nat) = i) (hn : i + 1 < nL) (hl2 : (i, Value.long x) :: lv.filter (fun q => !(q.1 == i) && (!(q.1 == i + 1) && !(q.1 + 1 == i && q.2.category == 2))) = lv2) (hdg : decode cc pc = .ok (.lstore_n q, 1)) (k : G w R X nL (pc + 1) lv2 st S) : G w R X nL pc lv (.long x :: st) S := by
  intro H locs ls hP hS hl
  exact lv_lstore_n hX.1 hX.2.1 hdg hi hl hn hl2 (fun ls2 hl3 => k H locs ls2 hP hS hl3)
theorem g_lstore (hX : gOK w R X cc nL own Ts) {i : Nat} {x : Int64} {lv2 : List (Nat × Value)} (hn : i + 1 < nL) (hl2 : (i, Value.long x) :: lv.filter (fun q => !(q.1 == i) && (!(q.1 == i + 1) && !(q.1 + 1 == i && q.2.category == 2))) = lv2) (hdg : decode cc pc = .ok (.lstore i, 2)) (k : G w R X nL (pc + 2) lv2 st S) : G w R X nL pc lv (.long x :: st) S := by
  intro H locs ls hP hS hl
  exact lv_lstore hX.1 hX.2.1 hdg hl hn hl2 (fun ls2 hl3 => k H locs ls2 hP hS hl3)
theorem g_iinc (hX : gOK w R X cc nL own Ts) {i : Nat} {n x : Int} {lv2 : List (Nat × Value)} (j : Nat) (hj : lv[j]? = some (i, vI x)) (hn : i < nL) (hl2 : (i, vI (x + n)) :: lv.filter (fun q => !(q.1 == i) && !(q.1 + 1 == i && q.2.category == 2)) = lv2) (hdg : decode cc pc = .ok (.iinc i n, 3)) (k : G w R X nL (pc + 3) lv2 st S) : G w R X nL pc lv st S := by
  intro H locs ls hP hS hl
  exact lv_iinc hX.1 hX.2.1 hdg hl hj (iI_add x n) hn hl2 (fun ls2 hl3 => k H locs ls2 hP hS hl3)
theorem g_sub {lv2 : List (Nat × Value)} (ks : List Nat) (h : lv_pick lv ks = lv2) (k : G w R X nL pc lv2 st S) : G w R X nL pc lv st S := fun H locs ls hP hS hl => k H locs ls hP hS (lv_sub hl ks h)
theorem g_at {pc2 : Nat} {lv2 : List (Nat × Value)} {st2 : List Value} {S2 : Nat → va_E} (h1 : pc = pc2) (h2 : lv = lv2) (h3 : st = st2) (h4 : S = S2) (k : G w R X nL pc2 lv2 st2 S2) : G w R X nL pc lv st S := by subst h1; subst h2; subst h3; subst h4; exact k
theorem g_iadd (hX : gOK w R X cc nL own Ts) {a b : Int} (hdg : decode cc pc = .ok (.iadd, 1)) (k : G w R X nL (pc + 1) lv (vI (a + b) :: st) S) : G w R X nL pc lv (vI b :: vI a :: st) S := by
  intro H locs ls hP hS hl
  refine lv_iadd hX.1 hX.2.1 hdg ?_
  rw [iI_add]
  exact k H locs ls hP hS hl
theorem g_isub (hX : gOK w R X cc nL own Ts) {a b : Int} (hdg : decode cc pc = .ok (.isub, 1)) (k : G w R X nL (pc + 1) lv (vI (a - b) :: st) S) : G w R X nL pc lv (vI b :: vI a :: st) S := by
  intro H locs ls hP hS hl
  refine lv_isub hX.1 hX.2.1 hdg ?_
  rw [iI_sub]
  exact k H locs ls hP hS hl
theorem g_imul (hX : gOK w R X cc nL own Ts) {a b : Int} (hdg : decode cc pc = .ok (.imul, 1)) (k : G w R X nL (pc + 1) lv (vI (a * b) :: st) S) : G w R X nL pc lv (vI b :: vI a :: st) S := by
  intro H locs ls hP hS hl
  refine lv_imul hX.1 hX.2.1 hdg ?_
  rw [iI_mul]
  exact k H locs ls hP hS hl
theorem g_ladd (hX : gOK w R X cc nL own Ts) {a b : Int} (hdg : decode cc pc = .ok (.ladd, 1)) (k : G w R X nL (pc + 1) lv (vL (a + b) :: st) S) : G w R X nL pc lv (vL b :: vL a :: st) S := by
  intro H locs ls hP hS hl
  refine lv_ladd hX.1 hX.2.1 hdg ?_
  rw [lI_add]
  exact k H locs ls hP hS hl
theorem g_lsub (hX : gOK w R X cc nL own Ts) {a b : Int} (hdg : decode cc pc = .ok (.lsub, 1)) (k : G w R X nL (pc + 1) lv (vL (a - b) :: st) S) : G w R X nL pc lv (vL b :: vL a :: st) S := by
  intro H locs ls hP hS hl
  refine lv_lsub hX.1 hX.2.1 hdg ?_
  rw [lI_sub]
  exact k H locs ls hP hS hl
theorem g_lmul (hX : gOK w R X cc nL own Ts) {a b : Int} (hdg : decode cc pc = .ok (.lmul, 1)) (k : G w R X nL (pc + 1) lv (vL (a * b) :: st) S) : G w R X nL pc lv (vL b :: vL a :: st) S := by
  intro H locs ls hP hS hl
  refine lv_lmul hX.1 hX.2.1 hdg ?_
  rw [lI_mul]
  exact k H locs ls hP hS hl
theorem g_ineg (hX : gOK w R X cc nL own Ts) {a : Int} (hdg : decode cc pc = .ok (.ineg, 1)) (k : G w R X nL (pc + 1) lv (vI (-a) :: st) S) : G w R X nL pc lv (vI a :: st) S := by
  intro H locs ls hP hS hl
  refine lv_ineg hX.1 hX.2.1 hdg ?_
  rw [iI_neg]
  exact k H locs ls hP hS hl
theorem g_lneg (hX : gOK w R X cc nL own Ts) {a : Int} (hdg : decode cc pc = .ok (.lneg, 1)) (k : G w R X nL (pc + 1) lv (vL (-a) :: st) S) : G w R X nL pc lv (vL a :: st) S := by
  intro H locs ls hP hS hl
  refine lv_lneg hX.1 hX.2.1 hdg ?_
  rw [lI_neg]
  exact k H locs ls hP hS hl
theorem g_idiv (hX : gOK w R X cc nL own Ts) {a b : Int} (ha : inI a) (hb : inI b) (h0 : b ≠ 0) (hdg : decode cc pc = .ok (.idiv, 1)) (k : G w R X nL (pc + 1) lv (vI (a.tdiv b) :: st) S) : G w R X nL pc lv (vI b :: vI a :: st) S := by
  intro H locs ls hP hS hl
  refine lv_idiv hX.1 hX.2.1 hdg (fun h => h0 ((iI_eq hb inI_0).mp h)) ?_
  rw [iI_div ha hb]
  exact k H locs ls hP hS hl
theorem g_ldiv (hX : gOK w R X cc nL own Ts) {a b : Int} (ha : inL a) (hb : inL b) (h0 : b ≠ 0) (hdg : decode cc pc = .ok (.ldiv, 1)) (k : G w R X nL (pc + 1) lv (vL (a.tdiv b) :: st) S) : G w R X nL pc lv (vL b :: vL a :: st) S := by
  intro H locs ls hP hS hl
  refine lv_ldiv hX.1 hX.2.1 hdg (fun h => h0 ((lI_eq hb (inI_L inI_0)).mp h)) ?_
  rw [lI_div ha hb]
  exact k H locs ls hP hS hl
theorem g_irem (hX : gOK w R X cc nL own Ts) {a b : Int} (ha : inI a) (hb : inI b) (h0 : b ≠ 0) (hdg : decode cc pc = .ok (.irem, 1)) (k : G w R X nL (pc + 1) lv (vI (a.tmod b) :: st) S) : G w R X nL pc lv (vI b :: vI a :: st) S := by
  intro H locs ls hP hS hl
  refine lv_irem hX.1 hX.2.1 hdg (fun h => h0 ((iI_eq hb inI_0).mp h)) ?_
  rw [iI_div ha hb, iI_mul, iI_sub, show a - a.tdiv b * b = a.tmod b by rw [Int.tmod_def, Int.mul_comm]]
  exact k H locs ls hP hS hl
theorem g_lrem (hX : gOK w R X cc nL own Ts) {a b : Int} (ha : inL a) (hb : inL b) (h0 : b ≠ 0) (hdg : decode cc pc = .ok (.lrem, 1)) (k : G w R X nL (pc + 1) lv (vL (a.tmod b) :: st) S) : G w R X nL pc lv (vL b :: vL a :: st) S := by
  intro H locs ls hP hS hl
  refine lv_lrem hX.1 hX.2.1 hdg (fun h => h0 ((lI_eq hb (inI_L inI_0)).mp h)) ?_
  rw [lI_div ha hb, lI_mul, lI_sub, show a - a.tdiv b * b = a.tmod b by rw [Int.tmod_def, Int.mul_comm]]
  exact k H locs ls hP hS hl
theorem g_i2l (hX : gOK w R X cc nL own Ts) {a : Int} (ha : inI a) (hdg : decode cc pc = .ok (.i2l, 1)) (k : G w R X nL (pc + 1) lv (vL a :: st) S) : G w R X nL pc lv (vI a :: st) S := by
  intro H locs ls hP hS hl
  refine lv_i2l hX.1 hX.2.1 hdg (iI_long ha) ?_
  exact k H locs ls hP hS hl
theorem g_l2i (hX : gOK w R X cc nL own Ts) {a : Int} (hdg : decode cc pc = .ok (.l2i, 1)) (k : G w R X nL (pc + 1) lv (vI a :: st) S) : G w R X nL pc lv (vL a :: st) S := by
  intro H locs ls hP hS hl
  refine lv_l2i hX.1 hX.2.1 hdg (lI_int a) ?_
  exact k H locs ls hP hS hl
theorem g_iand (hX : gOK w R X cc nL own Ts) {x y : Int32} {z : Int} (hz : x &&& y = iI z) (hdg : decode cc pc = .ok (.iand, 1)) (k : G w R X nL (pc + 1) lv (vI z :: st) S) : G w R X nL pc lv (.int y :: .int x :: st) S := by
  intro H locs ls hP hS hl
  refine lv_iand hX.1 hX.2.1 hdg ?_
  rw [hz]
  exact k H locs ls hP hS hl
theorem g_ior (hX : gOK w R X cc nL own Ts) {x y : Int32} {z : Int} (hz : x ||| y = iI z) (hdg : decode cc pc = .ok (.ior, 1)) (k : G w R X nL (pc + 1) lv (vI z :: st) S) : G w R X nL pc lv (.int y :: .int x :: st) S := by
  intro H locs ls hP hS hl
  refine lv_ior hX.1 hX.2.1 hdg ?_
  rw [hz]
  exact k H locs ls hP hS hl
theorem g_ixor (hX : gOK w R X cc nL own Ts) {x y : Int32} {z : Int} (hz : x ^^^ y = iI z) (hdg : decode cc pc = .ok (.ixor, 1)) (k : G w R X nL (pc + 1) lv (vI z :: st) S) : G w R X nL pc lv (.int y :: .int x :: st) S := by
  intro H locs ls hP hS hl
  refine lv_ixor hX.1 hX.2.1 hdg ?_
  rw [hz]
  exact k H locs ls hP hS hl
theorem g_land (hX : gOK w R X cc nL own Ts) {x y : Int64} {z : Int} (hz : x &&& y = lI z) (hdg : decode cc pc = .ok (.land, 1)) (k : G w R X nL (pc + 1) lv (vL z :: st) S) : G w R X nL pc lv (.long y :: .long x :: st) S := by
  intro H locs ls hP hS hl
  refine lv_land hX.1 hX.2.1 hdg ?_
  rw [hz]
  exact k H locs ls hP hS hl
theorem g_lor (hX : gOK w R X cc nL own Ts) {x y : Int64} {z : Int} (hz : x ||| y = lI z) (hdg : decode cc pc = .ok (.lor, 1)) (k : G w R X nL (pc + 1) lv (vL z :: st) S) : G w R X nL pc lv (.long y :: .long x :: st) S := by
  intro H locs ls hP hS hl
  refine lv_lor hX.1 hX.2.1 hdg ?_
  rw [hz]
  exact k H locs ls hP hS hl
theorem g_lshl (hX : gOK w R X cc nL own Ts) {x : Int64} {y : Int32} {z : Int} (hz : x <<< (y.toInt64 &&& 63) = lI z) (hdg : decode cc pc = .ok (.lshl, 1)) (k : G w R X nL (pc + 1) lv (vL z :: st) S) : G w R X nL pc lv (.int y :: .long x :: st) S := by
  intro H locs ls hP hS hl
  refine lv_lshl hX.1 hX.2.1 hdg hz ?_
  exact k H locs ls hP hS hl
theorem g_lshr (hX : gOK w R X cc nL own Ts) {x : Int64} {y : Int32} {z : Int} (hz : x >>> (y.toInt64 &&& 63) = lI z) (hdg : decode cc pc = .ok (.lshr, 1)) (k : G w R X nL (pc + 1) lv (vL z :: st) S) : G w R X nL pc lv (.int y :: .long x :: st) S := by
  intro H locs ls hP hS hl
  refine lv_lshr hX.1 hX.2.1 hdg hz ?_
  exact k H locs ls hP hS hl
theorem g_i2c (hX : gOK w R X cc nL own Ts) {x : Int32} {z : Int} (hz : (x.toUInt32 % 65536).toInt32 = iI z) (hdg : decode cc pc = .ok (.i2c, 1)) (k : G w R X nL (pc + 1) lv (vI z :: st) S) : G w R X nL pc lv (.int x :: st) S := by
  intro H locs ls hP hS hl
  refine lv_i2c hX.1 hX.2.1 hdg hz ?_
  exact k H locs ls hP hS hl
theorem g_dup (hX : gOK w R X cc nL own Ts) {x : Value} (hc : x.category = 1) (hdg : decode cc pc = .ok (.dup, 1)) (k : G w R X nL (pc + 1) lv (x :: x :: st) S) : G w R X nL pc lv (x :: st) S := by
  intro H locs ls hP hS hl
  refine lv_dup hX.1 hX.2.1 hdg hc ?_
  exact k H locs ls hP hS hl
theorem g_pop (hX : gOK w R X cc nL own Ts) {x : Value} (hc : x.category = 1) (hdg : decode cc pc = .ok (.pop, 1)) (k : G w R X nL (pc + 1) lv st S) : G w R X nL pc lv (x :: st) S := by
  intro H locs ls hP hS hl
  refine lv_pop hX.1 hX.2.1 hdg hc ?_
  exact k H locs ls hP hS hl
theorem g_dup2w (hX : gOK w R X cc nL own Ts) {x : Value} (hc : x.category = 2) (hdg : decode cc pc = .ok (.dup2, 1)) (k : G w R X nL (pc + 1) lv (x :: x :: st) S) : G w R X nL pc lv (x :: st) S := by
  intro H locs ls hP hS hl
  refine lv_dup2_2 hX.1 hX.2.1 hdg hc ?_
  exact k H locs ls hP hS hl
theorem g_dup2 (hX : gOK w R X cc nL own Ts) {x y : Value} (hc : x.category = 1) (hd : y.category = 1) (hdg : decode cc pc = .ok (.dup2, 1)) (k : G w R X nL (pc + 1) lv (x :: y :: x :: y :: st) S) : G w R X nL pc lv (x :: y :: st) S := by
  intro H locs ls hP hS hl
  refine lv_dup2_11 hX.1 hX.2.1 hdg hc hd ?_
  exact k H locs ls hP hS hl
theorem g_goto (hX : gOK w R X cc nL own Ts) {off : Int} {tgt : Nat} (hdg : decode cc pc = .ok (.goto off, 3)) (ht : (pc : Int) + off = (tgt : Int)) (k : G w R X nL tgt lv st S) : G w R X nL pc lv st S := by
  intro H locs ls hP hS hl
  exact lv_goto hX.1 hX.2.1 hdg ht (k H locs ls hP hS hl)
theorem g_icmp_eq (hX : gOK w R X cc nL own Ts) {off : Int} {tgt : Nat} {a b : Int} (ha : inI a) (hb : inI b) (hdg : decode cc pc = .ok (.if_icmp .eq off, 3)) (ht : (pc : Int) + off = (tgt : Int)) (kt : a = b → G w R X nL tgt lv st S) (kf : ¬ a = b → G w R X nL (pc + 3) lv st S) : G w R X nL pc lv (vI b :: vI a :: st) S := by
  intro H locs ls hP hS hl
  exact lv_icmp_eq hX.1 hX.2.1 hdg ht (fun h => kt ((iI_eq ha hb).mp h) H locs ls hP hS hl) (fun h => kf (fun q => h ((iI_eq ha hb).mpr q)) H locs ls hP hS hl)
theorem g_if_eq (hX : gOK w R X cc nL own Ts) {off : Int} {tgt : Nat} {a : Int} (ha : inI a) (hdg : decode cc pc = .ok (.ifCond .eq off, 3)) (ht : (pc : Int) + off = (tgt : Int)) (kt : a = 0 → G w R X nL tgt lv st S) (kf : ¬ a = 0 → G w R X nL (pc + 3) lv st S) : G w R X nL pc lv (vI a :: st) S := by
  intro H locs ls hP hS hl
  have hb : inI 0 := inI_0
  exact lv_if_eq hX.1 hX.2.1 hdg ht (fun h => kt ((iI_eq ha hb).mp h) H locs ls hP hS hl) (fun h => kf (fun q => h ((iI_eq ha hb).mpr q)) H locs ls hP hS hl)
theorem g_icmp_ne (hX : gOK w R X cc nL own Ts) {off : Int} {tgt : Nat} {a b : Int} (ha : inI a) (hb : inI b) (hdg : decode cc pc = .ok (.if_icmp .ne off, 3)) (ht : (pc : Int) + off = (tgt : Int)) (kt : ¬ a = b → G w R X nL tgt lv st S) (kf : a = b → G w R X nL (pc + 3) lv st S) : G w R X nL pc lv (vI b :: vI a :: st) S := by
  intro H locs ls hP hS hl
  exact lv_icmp_ne hX.1 hX.2.1 hdg ht (fun h => kt (fun q => h ((iI_eq ha hb).mpr q)) H locs ls hP hS hl) (fun h => kf ((iI_eq ha hb).mp h) H locs ls hP hS hl)
theorem g_if_ne (hX : gOK w R X cc nL own Ts) {off : Int} {tgt : Nat} {a : Int} (ha : inI a) (hdg : decode cc pc = .ok (.ifCond .ne off, 3)) (ht : (pc : Int) + off = (tgt : Int)) (kt : ¬ a = 0 → G w R X nL tgt lv st S) (kf : a = 0 → G w R X nL (pc + 3) lv st S) : G w R X nL pc lv (vI a :: st) S := by
  intro H locs ls hP hS hl
  have hb : inI 0 := inI_0
  exact lv_if_ne hX.1 hX.2.1 hdg ht (fun h => kt (fun q => h ((iI_eq ha hb).mpr q)) H locs ls hP hS hl) (fun h => kf ((iI_eq ha hb).mp h) H locs ls hP hS hl)
theorem g_icmp_lt (hX : gOK w R X cc nL own Ts) {off : Int} {tgt : Nat} {a b : Int} (ha : inI a) (hb : inI b) (hdg : decode cc pc = .ok (.if_icmp .lt off, 3)) (ht : (pc : Int) + off = (tgt : Int)) (kt : a < b → G w R X nL tgt lv st S) (kf : b ≤ a → G w R X nL (pc + 3) lv st S) : G w R X nL pc lv (vI b :: vI a :: st) S := by
  intro H locs ls hP hS hl
  exact lv_icmp_lt hX.1 hX.2.1 hdg ht (fun h => kt ((iI_lt ha hb).mp h) H locs ls hP hS hl) (fun h => kf (Int.not_lt.mp (fun q => h ((iI_lt ha hb).mpr q))) H locs ls hP hS hl)
theorem g_if_lt (hX : gOK w R X cc nL own Ts) {off : Int} {tgt : Nat} {a : Int} (ha : inI a) (hdg : decode cc pc = .ok (.ifCond .lt off, 3)) (ht : (pc : Int) + off = (tgt : Int)) (kt : a < 0 → G w R X nL tgt lv st S) (kf : 0 ≤ a → G w R X nL (pc + 3) lv st S) : G w R X nL pc lv (vI a :: st) S := by
  intro H locs ls hP hS hl
  have hb : inI 0 := inI_0
  exact lv_if_lt hX.1 hX.2.1 hdg ht (fun h => kt ((iI_lt ha hb).mp h) H locs ls hP hS hl) (fun h => kf (Int.not_lt.mp (fun q => h ((iI_lt ha hb).mpr q))) H locs ls hP hS hl)
theorem g_icmp_ge (hX : gOK w R X cc nL own Ts) {off : Int} {tgt : Nat} {a b : Int} (ha : inI a) (hb : inI b) (hdg : decode cc pc = .ok (.if_icmp .ge off, 3)) (ht : (pc : Int) + off = (tgt : Int)) (kt : b ≤ a → G w R X nL tgt lv st S) (kf : a < b → G w R X nL (pc + 3) lv st S) : G w R X nL pc lv (vI b :: vI a :: st) S := by
  intro H locs ls hP hS hl
  exact lv_icmp_ge hX.1 hX.2.1 hdg ht (fun h => kt ((iI_le hb ha).mp h) H locs ls hP hS hl) (fun h => kf (Int.not_le.mp (fun q => h ((iI_le hb ha).mpr q))) H locs ls hP hS hl)
theorem g_if_ge (hX : gOK w R X cc nL own Ts) {off : Int} {tgt : Nat} {a : Int} (ha : inI a) (hdg : decode cc pc = .ok (.ifCond .ge off, 3)) (ht : (pc : Int) + off = (tgt : Int)) (kt : 0 ≤ a → G w R X nL tgt lv st S) (kf : a < 0 → G w R X nL (pc + 3) lv st S) : G w R X nL pc lv (vI a :: st) S := by
  intro H locs ls hP hS hl
  have hb : inI 0 := inI_0
  exact lv_if_ge hX.1 hX.2.1 hdg ht (fun h => kt ((iI_le hb ha).mp h) H locs ls hP hS hl) (fun h => kf (Int.not_le.mp (fun q => h ((iI_le hb ha).mpr q))) H locs ls hP hS hl)
theorem g_icmp_gt (hX : gOK w R X cc nL own Ts) {off : Int} {tgt : Nat} {a b : Int} (ha : inI a) (hb : inI b) (hdg : decode cc pc = .ok (.if_icmp .gt off, 3)) (ht : (pc : Int) + off = (tgt : Int)) (kt : b < a → G w R X nL tgt lv st S) (kf : a ≤ b → G w R X nL (pc + 3) lv st S) : G w R X nL pc lv (vI b :: vI a :: st) S := by
  intro H locs ls hP hS hl
  exact lv_icmp_gt hX.1 hX.2.1 hdg ht (fun h => kt ((iI_lt hb ha).mp h) H locs ls hP hS hl) (fun h => kf (Int.not_lt.mp (fun q => h ((iI_lt hb ha).mpr q))) H locs ls hP hS hl)
theorem g_if_gt (hX : gOK w R X cc nL own Ts) {off : Int} {tgt : Nat} {a : Int} (ha : inI a) (hdg : decode cc pc = .ok (.ifCond .gt off, 3)) (ht : (pc : Int) + off = (tgt : Int)) (kt : 0 < a → G w R X nL tgt lv st S) (kf : a ≤ 0 → G w R X nL (pc + 3) lv st S) : G w R X nL pc lv (vI a :: st) S := by
  intro H locs ls hP hS hl
  have hb : inI 0 := inI_0
  exact lv_if_gt hX.1 hX.2.1 hdg ht (fun h => kt ((iI_lt hb ha).mp h) H locs ls hP hS hl) (fun h => kf (Int.not_lt.mp (fun q => h ((iI_lt hb ha).mpr q))) H locs ls hP hS hl)
theorem g_icmp_le (hX : gOK w R X cc nL own Ts) {off : Int} {tgt : Nat} {a b : Int} (ha : inI a) (hb : inI b) (hdg : decode cc pc = .ok (.if_icmp .le off, 3)) (ht : (pc : Int) + off = (tgt : Int)) (kt : a ≤ b → G w R X nL tgt lv st S) (kf : b < a → G w R X nL (pc + 3) lv st S) : G w R X nL pc lv (vI b :: vI a :: st) S := by
  intro H locs ls hP hS hl
  exact lv_icmp_le hX.1 hX.2.1 hdg ht (fun h => kt ((iI_le ha hb).mp h) H locs ls hP hS hl) (fun h => kf (Int.not_le.mp (fun q => h ((iI_le ha hb).mpr q))) H locs ls hP hS hl)
theorem g_if_le (hX : gOK w R X cc nL own Ts) {off : Int} {tgt : Nat} {a : Int} (ha : inI a) (hdg : decode cc pc = .ok (.ifCond .le off, 3)) (ht : (pc : Int) + off = (tgt : Int)) (kt : a ≤ 0 → G w R X nL tgt lv st S) (kf : 0 < a → G w R X nL (pc + 3) lv st S) : G w R X nL pc lv (vI a :: st) S := by
  intro H locs ls hP hS hl
  have hb : inI 0 := inI_0
  exact lv_if_le hX.1 hX.2.1 hdg ht (fun h => kt ((iI_le ha hb).mp h) H locs ls hP hS hl) (fun h => kf (Int.not_le.mp (fun q => h ((iI_le ha hb).mpr q))) H locs ls hP hS hl)
theorem g_bif_eq (hX : gOK w R X cc nL own Ts) {off : Int} {tgt : Nat} {a : Bool} (hdg : decode cc pc = .ok (.ifCond .eq off, 3)) (ht : (pc : Int) + off = (tgt : Int)) (kt : a = false → G w R X nL tgt lv st S) (kf : a = true → G w R X nL (pc + 3) lv st S) : G w R X nL pc lv (vI (bz a) :: st) S := by
  refine g_if_eq hX (bz_in a) hdg ht (fun h => kt ?_) (fun h => kf ?_) <;> cases a <;> first | rfl | (exact absurd h (by decide))
theorem g_bif_ne (hX : gOK w R X cc nL own Ts) {off : Int} {tgt : Nat} {a : Bool} (hdg : decode cc pc = .ok (.ifCond .ne off, 3)) (ht : (pc : Int) + off = (tgt : Int)) (kt : a = true → G w R X nL tgt lv st S) (kf : a = false → G w R X nL (pc + 3) lv st S) : G w R X nL pc lv (vI (bz a) :: st) S := by
  refine g_if_ne hX (bz_in a) hdg ht (fun h => kt ?_) (fun h => kf ?_) <;> cases a <;> first | rfl | (exact absurd h (by decide)) | (exact absurd rfl h)
theorem g_lcmp_v {a b : Int} (ha : inL a) (hb : inL b) : lg_cmp (lI a) (lI b) = iI (if b < a then 1 else if a = b then 0 else -1) := by
  unfold lg_cmp
  by_cases h : b < a
  · rw [if_pos ((lI_lt hb ha).mpr h), if_pos h]; rfl
  · rw [if_neg (fun q => h ((lI_lt hb ha).mp q)), if_neg h]
    by_cases h2 : a = b
    · rw [if_pos ((lI_eq ha hb).mpr h2), if_pos h2]; rfl
    · rw [if_neg (fun q => h2 ((lI_eq ha hb).mp q)), if_neg h2]; rfl
theorem cmp3_in (a b : Int) : inI (if b < a then 1 else if a = b then 0 else -1) := by
  split
  · exact ⟨by decide, by decide⟩
  · split <;> exact ⟨by decide, by decide⟩
theorem g_lcmp_eq (hX : gOK w R X cc nL own Ts) {off : Int} {tgt : Nat} {a b : Int} (ha : inL a) (hb : inL b) (hdg : decode cc pc = .ok (.lcmp, 1)) (hdg2 : decode cc (pc + 1) = .ok (.ifCond .eq off, 3)) (ht : (pc : Int) + 1 + off = (tgt : Int)) (kt : a = b → G w R X nL tgt lv st S) (kf : ¬ a = b → G w R X nL (pc + 4) lv st S) : G w R X nL pc lv (vL b :: vL a :: st) S := by
  intro H locs ls hP hS hl
  refine W.lcmp hX.1 hX.2.1 hdg ?_
  rw [g_lcmp_v ha hb]
  have hr := cmp3_in a b
  exact g_if_eq (pc := pc + 1) (tgt := tgt) hX hr hdg2 (by omega) (fun h => kt (by revert h; split <;> (try split) <;> omega)) (fun h => kf (by revert h; split <;> (try split) <;> omega)) H locs ls hP hS hl
theorem g_lcmp_ne (hX : gOK w R X cc nL own Ts) {off : Int} {tgt : Nat} {a b : Int} (ha : inL a) (hb : inL b) (hdg : decode cc pc = .ok (.lcmp, 1)) (hdg2 : decode cc (pc + 1) = .ok (.ifCond .ne off, 3)) (ht : (pc : Int) + 1 + off = (tgt : Int)) (kt : ¬ a = b → G w R X nL tgt lv st S) (kf : a = b → G w R X nL (pc + 4) lv st S) : G w R X nL pc lv (vL b :: vL a :: st) S := by
  intro H locs ls hP hS hl
  refine W.lcmp hX.1 hX.2.1 hdg ?_
  rw [g_lcmp_v ha hb]
  have hr := cmp3_in a b
  exact g_if_ne (pc := pc + 1) (tgt := tgt) hX hr hdg2 (by omega) (fun h => kt (by revert h; split <;> (try split) <;> omega)) (fun h => kf (by revert h; split <;> (try split) <;> omega)) H locs ls hP hS hl
theorem g_lcmp_lt (hX : gOK w R X cc nL own Ts) {off : Int} {tgt : Nat} {a b : Int} (ha : inL a) (hb : inL b) (hdg : decode cc pc = .ok (.lcmp, 1)) (hdg2 : decode cc (pc + 1) = .ok (.ifCond .lt off, 3)) (ht : (pc : Int) + 1 + off = (tgt : Int)) (kt : a < b → G w R X nL tgt lv st S) (kf : b ≤ a → G w R X nL (pc + 4) lv st S) : G w R X nL pc lv (vL b :: vL a :: st) S := by
  intro H locs ls hP hS hl
  refine W.lcmp hX.1 hX.2.1 hdg ?_
  rw [g_lcmp_v ha hb]
  have hr := cmp3_in a b
  exact g_if_lt (pc := pc + 1) (tgt := tgt) hX hr hdg2 (by omega) (fun h => kt (by revert h; split <;> (try split) <;> omega)) (fun h => kf (by revert h; split <;> (try split) <;> omega)) H locs ls hP hS hl
theorem g_lcmp_ge (hX : gOK w R X cc nL own Ts) {off : Int} {tgt : Nat} {a b : Int} (ha : inL a) (hb : inL b) (hdg : decode cc pc = .ok (.lcmp, 1)) (hdg2 : decode cc (pc + 1) = .ok (.ifCond .ge off, 3)) (ht : (pc : Int) + 1 + off = (tgt : Int)) (kt : b ≤ a → G w R X nL tgt lv st S) (kf : a < b → G w R X nL (pc + 4) lv st S) : G w R X nL pc lv (vL b :: vL a :: st) S := by
  intro H locs ls hP hS hl
  refine W.lcmp hX.1 hX.2.1 hdg ?_
  rw [g_lcmp_v ha hb]
  have hr := cmp3_in a b
  exact g_if_ge (pc := pc + 1) (tgt := tgt) hX hr hdg2 (by omega) (fun h => kt (by revert h; split <;> (try split) <;> omega)) (fun h => kf (by revert h; split <;> (try split) <;> omega)) H locs ls hP hS hl
theorem g_lcmp_gt (hX : gOK w R X cc nL own Ts) {off : Int} {tgt : Nat} {a b : Int} (ha : inL a) (hb : inL b) (hdg : decode cc pc = .ok (.lcmp, 1)) (hdg2 : decode cc (pc + 1) = .ok (.ifCond .gt off, 3)) (ht : (pc : Int) + 1 + off = (tgt : Int)) (kt : b < a → G w R X nL tgt lv st S) (kf : a ≤ b → G w R X nL (pc + 4) lv st S) : G w R X nL pc lv (vL b :: vL a :: st) S := by
  intro H locs ls hP hS hl
  refine W.lcmp hX.1 hX.2.1 hdg ?_
  rw [g_lcmp_v ha hb]
  have hr := cmp3_in a b
  exact g_if_gt (pc := pc + 1) (tgt := tgt) hX hr hdg2 (by omega) (fun h => kt (by revert h; split <;> (try split) <;> omega)) (fun h => kf (by revert h; split <;> (try split) <;> omega)) H locs ls hP hS hl
theorem g_lcmp_le (hX : gOK w R X cc nL own Ts) {off : Int} {tgt : Nat} {a b : Int} (ha : inL a) (hb : inL b) (hdg : decode cc pc = .ok (.lcmp, 1)) (hdg2 : decode cc (pc + 1) = .ok (.ifCond .le off, 3)) (ht : (pc : Int) + 1 + off = (tgt : Int)) (kt : a ≤ b → G w R X nL tgt lv st S) (kf : b < a → G w R X nL (pc + 4) lv st S) : G w R X nL pc lv (vL b :: vL a :: st) S := by
  intro H locs ls hP hS hl
  refine W.lcmp hX.1 hX.2.1 hdg ?_
  rw [g_lcmp_v ha hb]
  have hr := cmp3_in a b
  exact g_if_le (pc := pc + 1) (tgt := tgt) hX hr hdg2 (by omega) (fun h => kt (by revert h; split <;> (try split) <;> omega)) (fun h => kf (by revert h; split <;> (try split) <;> omega)) H locs ls hP hS hl
end GR
section GH
variable {w : gW} {R : Room} {X : gX} {nL pc : Nat} {cc : ByteArray} {own : String} {Ts : List Cond} {lv : List (Nat × Value)} {st : List Value} {S : Nat → va_E}
theorem g_get (hX : gOK w R X cc nL own Ts) {ref C : String} {T : u_T} {N ci index : Nat} (hin : ∀ q ∈ u_ws C T N, q ∈ Ts) (hc : vwCl[ci]? = some (C, T, N)) (q : Nat) (hq : q < gw_N w) {fs : List Value} (he : S q = .inr (ci, fs)) (j : Nat) (hj : j < N) (hm : Cond.fieldLink own index ref (T j).2.1 (T j).2.2.1 ∈ Ts) (href : ref = (T j).1) {v : Value} (hv : fs[j]? = some v) (hdg : decode cc pc = .ok (.getfield index, 3))
    (k : G w R X nL (pc + 3) lv (v :: st) S) : G w R X nL pc lv (.ref (gw_ad w q) :: st) S := by
  intro H locs ls hP hS hl
  refine va_get (D := gw_D w) (ci := ci) (v := v) (C := C) (T := T) (N := N) hX.1 hX.2.1 hX.2.2.2.2.1 hin hX.2.2.2.1 hX.2.2.2.2.2.1 hP q (gws_at hq he) hc j hj (hX.2.2.2.2.1 _ hm) (fun _ h9 => by rw [href]; exact h9) hv hdg ?_
  exact k H locs ls hP hS hl
theorem g_put (hX : gOK w R X cc nL own Ts) {ref C : String} {T : u_T} {N ci index : Nat} (hin : ∀ q ∈ u_ws C T N, q ∈ Ts) (hc : vwCl[ci]? = some (C, T, N)) (ty0 : Nat → FieldType) (hty : ∀ k, k < N → parseFieldDescriptor (T k).2.2.1 = some (ty0 k)) (hnm : ∀ a, a < N → ∀ b, b < N → a ≠ b → (T a).2.1 ≠ (T b).2.1) (q : Nat) (hq : q < gw_N w) {fs : List Value} (he : S q = .inr (ci, fs)) (j : Nat) (hj : j < N) (hm : Cond.fieldLink own index ref (T j).2.1 (T j).2.2.1 ∈ Ts) (href : ref = (T j).1) (hfin : (T j).2.2.2 = false) {v : Value} (hd : parseFieldDescriptor (T j).2.2.1 = some (ty0 j)) (hn : narrow (ty0 j) v = v) (hfit : fits (ty0 j) v = true) (hlen : j < fs.length) (hdg : decode cc pc = .ok (.putfield index, 3))
    (k : G w R X nL (pc + 3) lv st (va_up S q (.inr (ci, fs.set j v)))) : G w R X nL pc lv (v :: .ref (gw_ad w q) :: st) S := by
  intro H locs ls hP hS hl
  refine va_put (D := gw_D w) (ci := ci) (v := v) (C := C) (T := T) (N := N) hX.1 hX.2.1 hX.2.2.2.2.1 hin ty0 hty hnm hX.2.2.2.1 hX.2.2.2.2.2.1 hP (hX.2.2.2.2.2.2.1 S) hS q (gws_at hq he) hc j hj (hX.2.2.2.2.1 _ hm) (fun _ h9 => by rw [href]; exact h9) hfin hd hn hfit hlen hdg (fun H1 locs1 hP1 hD1 hS1 => ?_)
  rw [gws_set hq] at hP1
  exact k H1 locs1 ls hP1 hS1 hl
theorem g_iald (hX : gOK w R X cc nL own Ts) (q : Nat) (hq : q < gw_N w) {n : Nat} {f : Int → Int} (he : S q = AI w n f) {i : Int} (h0 : 0 ≤ i) (h1 : i < n) (hn : n ≤ 2147483647) (hdg : decode cc pc = .ok (.iaload, 1))
    (k : G w R X nL (pc + 1) lv (vI (f i) :: st) S) : G w R X nL pc lv (vI i :: .ref (gw_ad w q) :: st) S := by
  intro H locs ls hP hS hl
  refine va_iald (D := gw_D w) (f := fun j : Nat => iI (f j)) hX.1 hX.2.1 hX.2.2.2.2.2.1 hP q 0 (gws_at hq he) rfl (iI_vpin h0 h1 hn) hdg ?_
  rw [iI_nat ⟨by omega, by omega⟩, show ((i.toNat : Nat) : Int) = i by omega]
  exact k H locs ls hP hS hl
theorem g_iast (hX : gOK w R X cc nL own Ts) (q : Nat) (hq : q < gw_N w) {n : Nat} {f : Int → Int} (he : S q = AI w n f) {i x : Int} (h0 : 0 ≤ i) (h1 : i < n) (hn : n ≤ 2147483647) (hdg : decode cc pc = .ok (.iastore, 1))
    (k : G w R X nL (pc + 1) lv st (va_up S q (AI w n (updZ f i x)))) : G w R X nL pc lv (vI x :: vI i :: .ref (gw_ad w q) :: st) S := by
  intro H locs ls hP hS hl
  refine va_iast (D := gw_D w) (f := fun j : Nat => iI (f j)) hX.1 hX.2.1 hX.2.2.2.2.2.1 hP (hX.2.2.2.2.2.2.1 S) hS q 0 (gws_at hq he) rfl (iI_vpin h0 h1 hn) hdg (fun H1 locs1 hP1 hD1 hS1 => ?_)
  rw [iI_updZ h0 (by omega), gws_set hq] at hP1
  exact k H1 locs1 ls hP1 hS1 hl
theorem g_aald (hX : gOK w R X cc nL own Ts) (q : Nat) (hq : q < gw_N w) {n : Nat} {f : Nat → Option Nat} (he : S q = AR w n f) {i : Int} (h0 : 0 ≤ i) (h1 : i < n) (hn : n ≤ 2147483647) (hdg : decode cc pc = .ok (.aaload, 1))
    (k : G w R X nL (pc + 1) lv (va_rf (f i.toNat) :: st) S) : G w R X nL pc lv (vI i :: .ref (gw_ad w q) :: st) S := by
  intro H locs ls hP hS hl
  refine va_aldq (D := gw_D w) (f := f) hX.1 hX.2.1 hX.2.2.2.2.2.1 hP q 3 (gws_at hq he) rfl (iI_vpin h0 h1 hn) hdg ?_
  rw [iI_nat ⟨by omega, by omega⟩]
  exact k H locs ls hP hS hl
theorem g_alenAI (hX : gOK w R X cc nL own Ts) (q : Nat) (hq : q < gw_N w) {n : Nat} {f : Int → Int} (he : S q = AI w n f) (hdg : decode cc pc = .ok (.arraylength, 1))
    (k : G w R X nL (pc + 1) lv (vI (n : Int) :: st) S) : G w R X nL pc lv (.ref (gw_ad w q) :: st) S := by
  intro H locs ls hP hS hl
  exact va_alen (D := gw_D w) hX.1 hX.2.1 hX.2.2.2.2.2.1 hP q 0 (gws_at hq he) rfl (iI_ofNat n) hdg (k H locs ls hP hS hl)
theorem g_alenAR (hX : gOK w R X cc nL own Ts) (q : Nat) (hq : q < gw_N w) {n : Nat} {f : Nat → Option Nat} (he : S q = AR w n f) (hdg : decode cc pc = .ok (.arraylength, 1))
    (k : G w R X nL (pc + 1) lv (vI (n : Int) :: st) S) : G w R X nL pc lv (.ref (gw_ad w q) :: st) S := by
  intro H locs ls hP hS hl
  exact va_alen (D := gw_D w) hX.1 hX.2.1 hX.2.2.2.2.2.1 hP q 3 (gws_at hq he) rfl (iI_ofNat n) hdg (k H locs ls hP hS hl)
theorem g_gets (hX : gOK w R X cc nL own Ts) {n : String} {M t index : Nat} {f : Nat → Int} (hT : gT1 w n M f t (gx_s X) (gx_s X).heap) (hm : Cond.fieldLink own index "ParcelDesk" n "[I" ∈ Ts) (hdg : decode cc pc = .ok (.getstatic index, 3))
    (k : G w R X nL (pc + 3) lv (.ref t :: st) S) : G w R X nL pc lv st S := by
  intro H locs ls hP hS hl
  exact va_gets hX.1 hX.2.1 hT.1 hS hX.2.2.2.1 (hX.2.2.2.2.1 _ hm) (fun _ h => h) hdg (k H locs ls hP hS hl)
theorem g_stald (hX : gOK w R X cc nL own Ts) {n : String} {M t : Nat} {f : Nat → Int} (hT : gT1 w n M f t (gx_s X) (gx_s X).heap) {i : Int} (h0 : 0 ≤ i) (h1 : i < M) (hn : M ≤ 2147483647) (hdg : decode cc pc = .ok (.iaload, 1))
    (k : G w R X nL (pc + 1) lv (vI (f i.toNat) :: st) S) : G w R X nL pc lv (vI i :: .ref t :: st) S := by
  intro H locs ls hP hS hl
  exact va_ti hX.1 hX.2.1 hT.2 hS (iI_vpin h0 h1 hn) (by rw [iI_nat ⟨by omega, by omega⟩]) hdg (k H locs ls hP hS hl)
theorem g_stlen (hX : gOK w R X cc nL own Ts) {n : String} {M t : Nat} {f : Nat → Int} (hT : gT1 w n M f t (gx_s X) (gx_s X).heap) (hdg : decode cc pc = .ok (.arraylength, 1))
    (k : G w R X nL (pc + 1) lv (vI (M : Int) :: st) S) : G w R X nL pc lv (.ref t :: st) S := by
  intro H locs ls hP hS hl
  exact va_tlen hX.1 hX.2.1 hT.2 hS (iI_ofNat M) hdg (k H locs ls hP hS hl)
theorem g_iret (hX : gOK w R X cc nL own Ts) {K : Value → (Nat → va_E) → Prop} {x : Int32} (hR : gRet w X (some .int) (g1 K)) (hdg : decode cc pc = .ok (.ireturn, 1)) (hp : K (.int x) S) : G w R X nL pc lv [.int x] S := by
  intro H locs ls hP hS hl
  have hlk : (gx_h X).locks = false := hR.2.1
  rw [hR.2.2]
  exact W.iret (v := x) hX.1 hX.2.1 hR.1 (fun t ht hW => ⟨⟨some (.int x), S, rfl, ⟨_, rfl, hp⟩, by rw [ht]; exact hP⟩, hS.F ht⟩) hS.2.2 hdg hlk
theorem g_lret (hX : gOK w R X cc nL own Ts) {K : Value → (Nat → va_E) → Prop} {x : Int64} (hR : gRet w X (some .long) (g1 K)) (hdg : decode cc pc = .ok (.lreturn, 1)) (hp : K (.long x) S) : G w R X nL pc lv [.long x] S := by
  intro H locs ls hP hS hl
  have hlk : (gx_h X).locks = false := hR.2.1
  rw [hR.2.2]
  exact W.lret (v := x) hX.1 hX.2.1 hR.1 (fun t ht hW => ⟨⟨some (.long x), S, rfl, ⟨_, rfl, hp⟩, by rw [ht]; exact hP⟩, hS.F ht⟩) hS.2.2 hdg hlk
theorem g_zret (hX : gOK w R X cc nL own Ts) {K : Value → (Nat → va_E) → Prop} {x : Bool} (hR : gRet w X (some .boolean) (g1 K)) (hdg : decode cc pc = .ok (.ireturn, 1)) (hp : K (vI (bz x)) S) : G w R X nL pc lv [vI (bz x)] S := by
  intro H locs ls hP hS hl
  have hlk : (gx_h X).locks = false := hR.2.1
  rw [hR.2.2]
  exact W.zret (v := iI (bz x)) hX.1 hX.2.1 hR.1 (by cases x <;> rfl) (fun t ht hW => ⟨⟨some (vI (bz x)), S, rfl, ⟨_, rfl, hp⟩, by rw [ht]; exact hP⟩, hS.F ht⟩) hS.2.2 hdg hlk
theorem g_vret (hX : gOK w R X cc nL own Ts) {K : (Nat → va_E) → Prop} (hR : gRet w X none (g0 K)) (hdg : decode cc pc = .ok (.return_, 1)) (hp : K S) : G w R X nL pc lv [] S := by
  intro H locs ls hP hS hl
  have hlk : (gx_h X).locks = false := hR.2.1
  rw [hR.2.2]
  exact W.vret hX.1 hX.2.1 hR.1 (fun t ht hW => ⟨⟨none, S, rfl, ⟨rfl, hp⟩, by rw [ht]; exact hP⟩, hS.F ht⟩) hS.2.2 hdg hlk
theorem gPre_at {H : Heap} {locs : List Loc} {U : State} (hX : gOK w R X cc nL own Ts) (hP : va_P (gw_D w) vwCl (gws w S) H) (hS : va_S (gA w) (gx_s X).heap H locs) (hU : U.heap = H) (hW : (gx_s X).WarmedH U.vm) : gPre w S U := by
  refine ⟨?_, ?_, va_K.moved hW.alike hX.2.2.2.2.2.1, hX.2.2.2.2.2.2.1 S, ?_⟩
  · rw [hU]; exact Nat.le_trans hX.2.2.2.2.2.2.2.1 hS.1
  · rw [hU]; exact hP
  · rw [hU]; exact (gST.warm hW hX.2.2.2.2.2.2.2.2.1).kept hS.2.1
theorem g_run (hX : gOK w R X cc nL own Ts) {H : Heap} {locs : List Loc} {ls : Array Slot} {K : Option Value → (Nat → va_E) → Prop} {st2 : List Value} {a : Array Value} (hS : va_S (gA w) (gx_s X).heap H locs) (hl : lv_has ls nL lv)
    (hr : va_Run (gx_p X) (gx_l X) (gx_e X) R (gx_s X) (gx_m X) (gx_a X) (gx_b X) (gx_h X) (gx_c X) H locs (gx_k X) (gx_n X) 0 0 (F0 (gx_m X) pc ls st) st2 (gQ w K a) (gA w))
    (k : ∀ v S', K v S' → G w R X nL (pc + 3) lv (v.toList ++ st2) S') :
    W (gx_p X) (gx_l X) (gx_e X) R (gx_s X) (gx_m X) (gx_a X) (gx_b X) (gx_h X) (gx_c X) H locs (gx_k X) (gx_n X) (gx_Q X) (F0 (gx_m X) pc ls st) := by
  intro T hT XX
  obtain ⟨v, st₀, t, T', L, h0, X', hL, e1, e2, ⟨⟨v2, S', hv, hK, hP1⟩, hz, hk⟩, go⟩ := hr T hT XX
  cases hv
  rw [h0] at hz hk
  obtain ⟨t2, a1, b1⟩ := k v S' hK T'.heap (locs ++ L) ls (by rw [e1]; exact hP1) ⟨Nat.le_trans hS.1 (by rw [e1]; exact hz), fun q h1 h2 => by rw [e1, hk q (Nat.lt_of_lt_of_le h1 hS.1) h2]; exact hS.2.1 q h1 h2, fun q hq => by
      rcases List.mem_append.mp hq with h | h
      · exact hS.2.2 q h
      · exact hL q h⟩ hl T' rfl X'
  exact ⟨t2, go t2 a1, b1⟩
theorem g_callV (hX : gOK w R X cc nL own Ts) {index maxL n : Nat} {y : MethodName} {bytes : ByteArray} {ret : Option FieldType} {ws ws' : List Cond} {rm : Room} {C : String} {T : u_T} {N ci : Nat} {fs st2 As : List Value} {K : Option Value → (Nat → va_E) → Prop} (b : Nat) (hb : b < gw_N w) (he : S b = .inr (ci, fs)) (hc : vwCl[ci]? = some (C, T, N)) (hM : GM w (gx_l X) y ws rm (.ref (gw_ad w b) :: As) S K) (hT : GoodIn Ts (wsV own index C y ws)) (hw : ws = Cond.code y bytes maxL ret :: ws') (hrc : rm.cells = 0) (hrs : rm.slots = 0)
    (hd : y.cls = C ∧ y.cls ≠ "java/lang/invoke/MethodHandle" ∧ y.cls ≠ "java/lang/invoke/VarHandle" ∧ (parseMethodDescriptor y.desc).map (fun d => d.parameters.length) = some n) (hR : rm.frames + 1 ≤ R.frames ∧ 8 + (maxL + 11) + rm.locals ≤ R.locals) (hn : As.length = n) (hst : st = As.reverse ++ .ref (gw_ad w b) :: st2) (hsum : (st2.map fun v => v.category).sum ≤ 8) (hdg : decode cc pc = .ok (.invokevirtual index, 3))
    (k : ∀ v S', K v S' → G w R X nL (pc + 3) lv (v.toList ++ st2) S') : G w R X nL pc lv st S := by
  intro H locs ls hP hS hl
  refine g_run hX (st2 := st2) (a := (Value.ref (gw_ad w b) :: As).toArray) hS hl (va_runV (As := As) (rest := st2) ⟨hX.1, hX.2.1, hX.2.2.1, hX.2.2.2.1, hX.2.2.2.2.1⟩ hM (cwV n hX.2.2.2.2.1 hT hw hrc hrs hd hR) ⟨gPre.blind, va_recv hX.2.2.2.2.2.1 hP hc (gws_at hb he), fun U hU hW => ⟨rfl, gPre_at hX hP hS hU hW⟩⟩ rfl hn hl.1 hst (lv_room hsum) hdg ⟨hX.2.2.2.2.2.2.2.2.2.1, hX.2.2.2.2.2.2.2.2.2.2⟩) k
theorem g_callS (hX : gOK w R X cc nL own Ts) {index maxL n : Nat} {y : MethodName} {bytes : ByteArray} {ret : Option FieldType} {ws ws' : List Cond} {rm : Room} {st2 As : List Value} {K : Option Value → (Nat → va_E) → Prop} (hM : GM w (gx_l X) y ws rm As S K) (hT : GoodIn Ts (wsS own index y ws)) (hw : ws = Cond.code y bytes maxL ret :: ws') (hrc : rm.cells = 0) (hrs : rm.slots = 0)
    (hd : y.cls = own ∧ y.cls ≠ "java/lang/invoke/MethodHandle" ∧ y.cls ≠ "java/lang/invoke/VarHandle" ∧ (parseMethodDescriptor y.desc).map (fun d => d.parameters.length) = some n) (hR : rm.frames + 1 ≤ R.frames ∧ 8 + (maxL + 11) + rm.locals ≤ R.locals) (hn : As.length = n) (hst : st = As.reverse ++ st2) (hsum : (st2.map fun v => v.category).sum ≤ 8) (hdg : decode cc pc = .ok (.invokestatic index, 3))
    (k : ∀ v S', K v S' → G w R X nL (pc + 3) lv (v.toList ++ st2) S') : G w R X nL pc lv st S := by
  intro H locs ls hP hS hl
  refine g_run hX (st2 := st2) (a := As.toArray) hS hl (va_runS (As := As) (rest := st2) ⟨hX.1, hX.2.1, hX.2.2.1, hX.2.2.2.1, hX.2.2.2.2.1⟩ hM (cwS n hX.2.2.2.2.1 hT hw hrc hrs hd hR) ⟨gPre.blind, fun U hU hW => ⟨rfl, gPre_at hX hP hS hU hW⟩⟩ rfl hn hl.1 hst (lv_room hsum) hdg ⟨hX.2.2.2.2.2.2.2.2.2.1, hX.2.2.2.2.2.2.2.2.2.2⟩) k
theorem g_callT (hX : gOK w R X cc nL own Ts) {index maxL n : Nat} {y : MethodName} {bytes : ByteArray} {ret : Option FieldType} {ws ws' : List Cond} {rm : Room} {st2 As : List Value} {K : Option Value → (Nat → va_E) → Prop} (hM : GM w (gx_l X) y ws rm As S K) (hT : GoodIn Ts (va_wsS own index y ws)) (hw : ws = Cond.code y bytes maxL ret :: ws') (hrc : rm.cells = 0) (hrs : rm.slots = 0)
    (hd : y.cls ≠ "java/lang/invoke/MethodHandle" ∧ y.cls ≠ "java/lang/invoke/VarHandle" ∧ (parseMethodDescriptor y.desc).map (fun d => d.parameters.length) = some n) (hR : rm.frames + 1 ≤ R.frames ∧ 8 + (maxL + 11) + rm.locals ≤ R.locals) (hn : As.length = n) (hst : st = As.reverse ++ st2) (hsum : (st2.map fun v => v.category).sum ≤ 8) (hdg : decode cc pc = .ok (.invokestatic index, 3))
    (k : ∀ v S', K v S' → G w R X nL (pc + 3) lv (v.toList ++ st2) S') : G w R X nL pc lv st S := by
  intro H locs ls hP hS hl
  refine g_run hX (st2 := st2) (a := As.toArray) hS hl (va_runS (As := As) (rest := st2) ⟨hX.1, hX.2.1, hX.2.2.1, hX.2.2.2.1, hX.2.2.2.2.1⟩ hM (va_cwS n hX.2.2.2.2.1 hT hw hrc hrs hd hR) ⟨gPre.blind, fun U hU hW => ⟨rfl, gPre_at hX hP hS hU hW⟩⟩ rfl hn hl.1 hst (lv_room hsum) hdg ⟨hX.2.2.2.2.2.2.2.2.2.1, hX.2.2.2.2.2.2.2.2.2.2⟩) k
theorem g_mmax (hX : gOK w R X cc nL own Ts) {index : Nat} {a b : Int} (ha : inI a) (hb : inI b) (hm1 : Cond.methodLink own index Lib.Math.max.name ∈ Ts) (hm2 : Cond.static Lib.Math.max.name ∈ Ts) (hm3 : Cond.initialized "java/lang/Math" ∈ Ts) (hm4 : Cond.code Lib.Math.max.name Lib.Math.max.code 2 (some .int) ∈ Ts) (hfr : 1 ≤ R.frames) (hlo : (st.map fun v => v.category).sum + 13 ≤ R.locals) (hdg : decode cc pc = .ok (.invokestatic index, 3))
    (k : G w R X nL (pc + 3) lv (vI (if a < b then b else a) :: st) S) : G w R X nL pc lv (vI b :: vI a :: st) S := by
  intro H locs ls hP hS hl
  refine va_mmax hX.1 hX.2.1 (hX.2.2.1.trans hl.1.symm) hX.2.2.2.1 (hX.2.2.2.2.1 _ hm1) (hX.2.2.2.2.1 _ hm2) (hX.2.2.2.2.1 _ hm3) (hX.2.2.2.2.1 _ hm4) hfr hlo hX.2.2.2.2.2.2.2.2.2.1 hX.2.2.2.2.2.2.2.2.2.2 hdg ?_
  have e : (if iI a < iI b then iI b else iI a) = iI (if a < b then b else a) := by
    by_cases h : a < b
    · rw [if_pos h, if_pos ((iI_lt ha hb).mpr h)]
    · rw [if_neg h, if_neg (fun q => h ((iI_lt ha hb).mp q))]
  rw [e]
  exact k H locs ls hP hS hl
theorem g_mmin (hX : gOK w R X cc nL own Ts) {index : Nat} {a b : Int} (ha : inI a) (hb : inI b) (hm1 : Cond.methodLink own index Lib.Math.min.name ∈ Ts) (hm2 : Cond.static Lib.Math.min.name ∈ Ts) (hm3 : Cond.initialized "java/lang/Math" ∈ Ts) (hm4 : Cond.code Lib.Math.min.name Lib.Math.min.code 2 (some .int) ∈ Ts) (hfr : 1 ≤ R.frames) (hlo : (st.map fun v => v.category).sum + 13 ≤ R.locals) (hdg : decode cc pc = .ok (.invokestatic index, 3))
    (k : G w R X nL (pc + 3) lv (vI (if b < a then b else a) :: st) S) : G w R X nL pc lv (vI b :: vI a :: st) S := by
  intro H locs ls hP hS hl
  refine va_mmin hX.1 hX.2.1 (hX.2.2.1.trans hl.1.symm) hX.2.2.2.1 (hX.2.2.2.2.1 _ hm1) (hX.2.2.2.2.1 _ hm2) (hX.2.2.2.2.1 _ hm3) (hX.2.2.2.2.1 _ hm4) hfr hlo hX.2.2.2.2.2.2.2.2.2.1 hX.2.2.2.2.2.2.2.2.2.2 hdg ?_
  have e : (if iI b < iI a then iI b else iI a) = iI (if b < a then b else a) := by
    by_cases h : b < a
    · rw [if_pos h, if_pos ((iI_lt hb ha).mpr h)]
    · rw [if_neg h, if_neg (fun q => h ((iI_lt hb ha).mp q))]
  rw [e]
  exact k H locs ls hP hS hl
theorem g_mabs (hX : gOK w R X cc nL own Ts) {index : Nat} {a : Int} (ha : inI a) (hm1 : Cond.methodLink own index Lib.Math.abs.name ∈ Ts) (hm2 : Cond.static Lib.Math.abs.name ∈ Ts) (hm3 : Cond.initialized "java/lang/Math" ∈ Ts) (hm4 : Cond.code Lib.Math.abs.name Lib.Math.abs.code 1 (some .int) ∈ Ts) (hfr : 1 ≤ R.frames) (hlo : (st.map fun v => v.category).sum + 13 ≤ R.locals) (hdg : decode cc pc = .ok (.invokestatic index, 3))
    (k : G w R X nL (pc + 3) lv (vI (if 0 ≤ a then a else -a) :: st) S) : G w R X nL pc lv (vI a :: st) S := by
  intro H locs ls hP hS hl
  refine va_mabs hX.1 hX.2.1 (hX.2.2.1.trans hl.1.symm) hX.2.2.2.1 (hX.2.2.2.2.1 _ hm1) (hX.2.2.2.2.1 _ hm2) (hX.2.2.2.2.1 _ hm3) (hX.2.2.2.2.1 _ hm4) hfr hlo hX.2.2.2.2.2.2.2.2.2.1 hX.2.2.2.2.2.2.2.2.2.2 hdg ?_
  have e : (if 0 ≤ iI a then iI a else 0 - iI a) = iI (if 0 ≤ a then a else -a) := by
    by_cases h : 0 ≤ a
    · rw [if_pos h, if_pos (by rw [← iI_0]; exact (iI_le inI_0 ha).mpr h)]
    · rw [if_neg h, if_neg (by rw [← iI_0]; exact fun q => h ((iI_le inI_0 ha).mp q)), ← iI_0, iI_sub, Int.zero_sub]
  rw [e]
  exact k H locs ls hP hS hl
end GH
section GC
variable {w : gW} {R : Room} {X : gX} {nL pc : Nat} {cc : ByteArray} {own : String} {Ts : List Cond} {lv : List (Nat × Value)} {st : List Value} {S : Nat → va_E}
theorem up_eq {α : Type} (f : Nat → α) (k : Nat) (v : α) : va_up f k v k = v := if_pos rfl
theorem up_ne {α : Type} {f : Nat → α} {k j : Nat} {v x : α} (h : j ≠ k) (e : f j = x) : va_up f k v j = x := (if_neg h).trans e
theorem up_self {α : Type} {f : Nat → α} {k : Nat} {v : α} (e : f k = v) : va_up f k v = f := by funext j; unfold va_up; by_cases h : j = k; (· rw [if_pos h, h, e]); (· rw [if_neg h])
theorem up_up {α : Type} (f : Nat → α) (k : Nat) (v x : α) : va_up (va_up f k v) k x = va_up f k x := by funext j; unfold va_up; by_cases h : j = k <;> simp [h]
theorem up_comm {α : Type} (f : Nat → α) {k j : Nat} (h : k ≠ j) (v x : α) : va_up (va_up f k v) j x = va_up (va_up f j x) k v := by funext i; unfold va_up; by_cases h1 : i = j <;> by_cases h2 : i = k <;> simp_all
theorem up_abab {α : Type} {f : Nat → α} {a b : Nat} (h : a ≠ b) (x y x2 y2 : α) : va_up (va_up (va_up (va_up f a x) b y) a x2) b y2 = va_up (va_up f a x2) b y2 := by funext i; unfold va_up; by_cases h1 : i = b; (· simp only [if_pos h1]); (· simp only [if_neg h1]; by_cases h2 : i = a; (· simp only [if_pos h2]); (· simp only [if_neg h2]))
theorem fit_int (x : Int32) : fits .int (.int x) = true := rfl
theorem fit_bz (b : Bool) : fits .boolean (vI (bz b)) = true := by cases b <;> rfl
theorem nar_bz (b : Bool) : narrow .boolean (vI (bz b)) = vI (bz b) := by cases b <;> rfl
theorem g_callV1 (hX : gOK w R X cc nL own Ts) {index maxL n : Nat} {y : MethodName} {bytes : ByteArray} {ret : Option FieldType} {ws ws' : List Cond} {rm : Room} {C : String} {T : u_T} {N ci : Nat} {fs st2 As : List Value} {K : Value → (Nat → va_E) → Prop} (b : Nat) (hb : b < gw_N w) (he : S b = .inr (ci, fs)) (hc : vwCl[ci]? = some (C, T, N)) (hM : GM1 w (gx_l X) y ws rm (.ref (gw_ad w b) :: As) S K) (hT : GoodIn Ts (wsV own index C y ws)) (hw : ws = Cond.code y bytes maxL ret :: ws') (hrc : rm.cells = 0) (hrs : rm.slots = 0)
    (hd : y.cls = C ∧ y.cls ≠ "java/lang/invoke/MethodHandle" ∧ y.cls ≠ "java/lang/invoke/VarHandle" ∧ (parseMethodDescriptor y.desc).map (fun d => d.parameters.length) = some n) (hR : rm.frames + 1 ≤ R.frames ∧ 8 + (maxL + 11) + rm.locals ≤ R.locals) (hn : As.length = n) (hst : st = As.reverse ++ .ref (gw_ad w b) :: st2) (hsum : (st2.map fun v => v.category).sum ≤ 8) (hdg : decode cc pc = .ok (.invokevirtual index, 3))
    (k : ∀ x S', K x S' → G w R X nL (pc + 3) lv (x :: st2) S') : G w R X nL pc lv st S := g_callV hX b hb he hc hM hT hw hrc hrs hd hR hn hst hsum hdg (fun v S' h => by obtain ⟨x, rfl, h2⟩ := h; exact k x S' h2)
theorem g_callV0 (hX : gOK w R X cc nL own Ts) {index maxL n : Nat} {y : MethodName} {bytes : ByteArray} {ret : Option FieldType} {ws ws' : List Cond} {rm : Room} {C : String} {T : u_T} {N ci : Nat} {fs st2 As : List Value} {K : (Nat → va_E) → Prop} (b : Nat) (hb : b < gw_N w) (he : S b = .inr (ci, fs)) (hc : vwCl[ci]? = some (C, T, N)) (hM : GM0 w (gx_l X) y ws rm (.ref (gw_ad w b) :: As) S K) (hT : GoodIn Ts (wsV own index C y ws)) (hw : ws = Cond.code y bytes maxL ret :: ws') (hrc : rm.cells = 0) (hrs : rm.slots = 0)
    (hd : y.cls = C ∧ y.cls ≠ "java/lang/invoke/MethodHandle" ∧ y.cls ≠ "java/lang/invoke/VarHandle" ∧ (parseMethodDescriptor y.desc).map (fun d => d.parameters.length) = some n) (hR : rm.frames + 1 ≤ R.frames ∧ 8 + (maxL + 11) + rm.locals ≤ R.locals) (hn : As.length = n) (hst : st = As.reverse ++ .ref (gw_ad w b) :: st2) (hsum : (st2.map fun v => v.category).sum ≤ 8) (hdg : decode cc pc = .ok (.invokevirtual index, 3))
    (k : ∀ S', K S' → G w R X nL (pc + 3) lv st2 S') : G w R X nL pc lv st S := g_callV hX b hb he hc hM hT hw hrc hrs hd hR hn hst hsum hdg (fun v S' h => by obtain ⟨rfl, h2⟩ := h; exact k S' h2)
theorem g_callT1 (hX : gOK w R X cc nL own Ts) {index maxL n : Nat} {y : MethodName} {bytes : ByteArray} {ret : Option FieldType} {ws ws' : List Cond} {rm : Room} {st2 As : List Value} {K : Value → (Nat → va_E) → Prop} (hM : GM1 w (gx_l X) y ws rm As S K) (hT : GoodIn Ts (va_wsS own index y ws)) (hw : ws = Cond.code y bytes maxL ret :: ws') (hrc : rm.cells = 0) (hrs : rm.slots = 0)
    (hd : y.cls ≠ "java/lang/invoke/MethodHandle" ∧ y.cls ≠ "java/lang/invoke/VarHandle" ∧ (parseMethodDescriptor y.desc).map (fun d => d.parameters.length) = some n) (hR : rm.frames + 1 ≤ R.frames ∧ 8 + (maxL + 11) + rm.locals ≤ R.locals) (hn : As.length = n) (hst : st = As.reverse ++ st2) (hsum : (st2.map fun v => v.category).sum ≤ 8) (hdg : decode cc pc = .ok (.invokestatic index, 3))
    (k : ∀ x S', K x S' → G w R X nL (pc + 3) lv (x :: st2) S') : G w R X nL pc lv st S := g_callT hX hM hT hw hrc hrs hd hR hn hst hsum hdg (fun v S' h => by obtain ⟨x, rfl, h2⟩ := h; exact k x S' h2)
theorem g_callT0 (hX : gOK w R X cc nL own Ts) {index maxL n : Nat} {y : MethodName} {bytes : ByteArray} {ret : Option FieldType} {ws ws' : List Cond} {rm : Room} {st2 As : List Value} {K : (Nat → va_E) → Prop} (hM : GM0 w (gx_l X) y ws rm As S K) (hT : GoodIn Ts (va_wsS own index y ws)) (hw : ws = Cond.code y bytes maxL ret :: ws') (hrc : rm.cells = 0) (hrs : rm.slots = 0)
    (hd : y.cls ≠ "java/lang/invoke/MethodHandle" ∧ y.cls ≠ "java/lang/invoke/VarHandle" ∧ (parseMethodDescriptor y.desc).map (fun d => d.parameters.length) = some n) (hR : rm.frames + 1 ≤ R.frames ∧ 8 + (maxL + 11) + rm.locals ≤ R.locals) (hn : As.length = n) (hst : st = As.reverse ++ st2) (hsum : (st2.map fun v => v.category).sum ≤ 8) (hdg : decode cc pc = .ok (.invokestatic index, 3))
    (k : ∀ S', K S' → G w R X nL (pc + 3) lv st2 S') : G w R X nL pc lv st S := g_callT hX hM hT hw hrc hrs hd hR hn hst hsum hdg (fun v S' h => by obtain ⟨rfl, h2⟩ := h; exact k S' h2)
theorem g_callN1 (hX : gOK w R X cc nL own Ts) {index maxL n : Nat} {y : MethodName} {bytes : ByteArray} {ret : Option FieldType} {ws ws' : List Cond} {rm : Room} {st2 As : List Value} {K : Value → (Nat → va_E) → Prop} (hM : GM1 w (gx_l X) y ws rm As S K) (hG : GoodIn Ts ws) (hnest : (own, index, y) ∈ gNM) (hstat : Cond.static y ∈ Ts) (hini : Cond.initialized y.cls ∈ Ts) (hw : ws = Cond.code y bytes maxL ret :: ws') (hrc : rm.cells = 0) (hrs : rm.slots = 0)
    (hd : y.cls ≠ "java/lang/invoke/MethodHandle" ∧ y.cls ≠ "java/lang/invoke/VarHandle" ∧ (parseMethodDescriptor y.desc).map (fun d => d.parameters.length) = some n) (hR : rm.frames + 1 ≤ R.frames ∧ 8 + (maxL + 11) + rm.locals ≤ R.locals) (hn : As.length = n) (hst : st = As.reverse ++ st2) (hsum : (st2.map fun v => v.category).sum ≤ 8) (hdg : decode cc pc = .ok (.invokestatic index, 3))
    (k : ∀ x S1, K x S1 → G w R X nL (pc + 3) lv (x :: st2) S1) : G w R X nL pc lv st S := by
  intro H locs ls hP hS hl
  refine g_run hX (st2 := st2) (a := As.toArray) hS hl (va_runSN (As := As) (rest := st2) ⟨hX.1, hX.2.1, hX.2.2.1, hX.2.2.2.1, hX.2.2.2.2.1⟩ hM ⟨va_cnB n hX.2.2.2.2.1 hG hw hrc hrs (hX.2.2.2.2.2.2.2.2.1.2.2.2.2.1 _ hnest) (hX.2.2.2.2.1 _ hini) hd hR, hX.2.2.2.2.1 _ hstat, trivial⟩ ⟨gPre.blind, fun U hU hW => ⟨rfl, gPre_at hX hP hS hU hW⟩⟩ rfl hn hl.1 hst (lv_room hsum) hdg ⟨hX.2.2.2.2.2.2.2.2.2.1, hX.2.2.2.2.2.2.2.2.2.2⟩) (fun v S1 h => by obtain ⟨x, rfl, h2⟩ := h; exact k x S1 h2)
theorem g_callN0 (hX : gOK w R X cc nL own Ts) {index maxL n : Nat} {y : MethodName} {bytes : ByteArray} {ret : Option FieldType} {ws ws' : List Cond} {rm : Room} {st2 As : List Value} {K : (Nat → va_E) → Prop} (hM : GM0 w (gx_l X) y ws rm As S K) (hG : GoodIn Ts ws) (hnest : (own, index, y) ∈ gNM) (hstat : Cond.static y ∈ Ts) (hini : Cond.initialized y.cls ∈ Ts) (hw : ws = Cond.code y bytes maxL ret :: ws') (hrc : rm.cells = 0) (hrs : rm.slots = 0)
    (hd : y.cls ≠ "java/lang/invoke/MethodHandle" ∧ y.cls ≠ "java/lang/invoke/VarHandle" ∧ (parseMethodDescriptor y.desc).map (fun d => d.parameters.length) = some n) (hR : rm.frames + 1 ≤ R.frames ∧ 8 + (maxL + 11) + rm.locals ≤ R.locals) (hn : As.length = n) (hst : st = As.reverse ++ st2) (hsum : (st2.map fun v => v.category).sum ≤ 8) (hdg : decode cc pc = .ok (.invokestatic index, 3))
    (k : ∀ S1, K S1 → G w R X nL (pc + 3) lv st2 S1) : G w R X nL pc lv st S := by
  intro H locs ls hP hS hl
  refine g_run hX (st2 := st2) (a := As.toArray) hS hl (va_runSN (As := As) (rest := st2) ⟨hX.1, hX.2.1, hX.2.2.1, hX.2.2.2.1, hX.2.2.2.2.1⟩ hM ⟨va_cnB n hX.2.2.2.2.1 hG hw hrc hrs (hX.2.2.2.2.2.2.2.2.1.2.2.2.2.1 _ hnest) (hX.2.2.2.2.1 _ hini) hd hR, hX.2.2.2.2.1 _ hstat, trivial⟩ ⟨gPre.blind, fun U hU hW => ⟨rfl, gPre_at hX hP hS hU hW⟩⟩ rfl hn hl.1 hst (lv_room hsum) hdg ⟨hX.2.2.2.2.2.2.2.2.2.1, hX.2.2.2.2.2.2.2.2.2.2⟩) (fun v S1 h => by obtain ⟨rfl, h2⟩ := h; exact k S1 h2)
theorem g_getsN (hX : gOK w R X cc nL own Ts) {n ref host : String} {M t index : Nat} {f : Nat → Int} (hT : gT1 w n M f t (gx_s X) (gx_s X).heap) (hm : va_Nw (.fieldLinkNest own index "ParcelDesk" n "[I" host) (gx_s X)) (hdg : decode cc pc = .ok (.getstatic index, 3))
    (k : G w R X nL (pc + 3) lv (.ref t :: st) S) : G w R X nL pc lv st S := by
  intro H locs ls hP hS hl
  exact va_getsN hX.1 hX.2.1 hT.1 hS hX.2.2.2.1 (va_Nw.use rfl hm) (fun _ h => h) hdg (k H locs ls hP hS hl)
theorem g_copyi (hX : gOK w R X cc nL own Ts) {index : Nat} (hm1 : Cond.methodLink own index arraycopyName ∈ Ts) (hm2 : Cond.native arraycopyName ∈ Ts) (hm3 : Cond.static arraycopyName ∈ Ts) (hm4 : Cond.initialized "java/lang/System" ∈ Ts) (q0 q1 : Nat) (h0 : q0 < gw_N w) (h1 : q1 < gw_N w) {n0 n1 : Nat} {f g : Int → Int} (e0 : S q0 = AI w n0 f) (e1 : S q1 = AI w n1 g) {n : Int} (hn : 0 ≤ n) (hn0 : n ≤ n0) (hn1 : n ≤ n1) (hb : n ≤ 2147483647) (hfr : 1 ≤ R.frames) (hlo : (st.map fun v => v.category).sum + (nativeFrameWords "java/lang/System" "arraycopy" 5 + 11) ≤ R.locals) (hdg : decode cc pc = .ok (.invokestatic index, 3))
    (k : G w R X nL (pc + 3) lv st (va_up S q1 (AI w n1 (fun j => if j < n then f j else g j)))) : G w R X nL pc lv (vI n :: vI 0 :: .ref (gw_ad w q1) :: vI 0 :: .ref (gw_ad w q0) :: st) S := by
  intro H locs ls hP hS hl
  have hi : inI n := ⟨by omega, hb⟩
  refine va_copyi (D := gw_D w) (f := fun j : Nat => iI (f j)) (g := fun j : Nat => iI (g j)) (ty := .int) hX.1 hX.2.1 (hX.2.2.1.trans hl.1.symm) hX.2.2.2.1 (hX.2.2.2.2.1 _ hm1) (hX.2.2.2.2.1 _ hm2) (hX.2.2.2.2.1 _ hm3) (hX.2.2.2.2.1 _ hm4) hX.2.2.2.2.2.1 hP (hX.2.2.2.2.2.2.1 S) hS q0 q1 0 0 (gws_at h0 e0) (gws_at h1 e1) rfl rfl rfl (by rw [iI_0]; decide) (by rw [iI_0]; decide) (by rw [← iI_0, iI_lt hi inI_0]; omega) (by rw [iI_nat hi, iI_0, show (0 : Int32).toNatClampNeg = 0 from rfl]; omega) (by rw [iI_nat hi, iI_0, show (0 : Int32).toNatClampNeg = 0 from rfl]; omega) (fun i _ => rfl) hfr hlo hdg (fun H1 locs1 hP1 hD1 hS1 => ?_)
  have e : va_cpy (fun j : Nat => iI (f j)) (fun j : Nat => iI (g j)) (iI 0).toNatClampNeg (iI 0).toNatClampNeg (iI n).toNatClampNeg = fun j : Nat => iI (if (j : Int) < n then f j else g j) := by
    funext j
    rw [iI_nat hi, iI_0, show (0 : Int32).toNatClampNeg = 0 from rfl]
    unfold va_cpy
    by_cases h : (j : Int) < n
    · rw [if_pos ⟨Nat.zero_le _, by omega⟩, if_pos h, Nat.zero_add, Nat.sub_zero]
    · rw [if_neg (fun q => h (by omega)), if_neg h]
  rw [e, gws_set h1] at hP1
  exact k H1 locs1 ls hP1 hS1 hl
theorem g_tin (hX : gOK w R X cc nL own Ts) {dflt lo hi x n off : Int} {offs : Array Int} {len tgt : Nat} (hx : x = n) (hin : -2147483648 ≤ n ∧ n ≤ 2147483647) (h1 : lo ≤ n) (h2 : n ≤ hi) (ho : offs[(n - lo).toNat]? = some off) (hdg : decode cc pc = .ok (.tableswitch dflt lo hi offs, len)) (ht : (pc : Int) + off = (tgt : Int))
    (k : G w R X nL tgt lv st S) : G w R X nL pc lv (vI x :: st) S := by
  intro H locs ls hP hS hl
  subst hx
  have e := iI_toInt (z := x) hin
  exact lv_tableIn hX.1 hX.2.1 hdg (by rw [e]; omega) (by rw [e]; omega) (by rw [e]; exact ho) ht (k H locs ls hP hS hl)
theorem g_tout (hX : gOK w R X cc nL own Ts) {dflt lo hi x : Int} {offs : Array Int} {len tgt : Nat} (hin : inI x) (h1 : x < lo ∨ hi < x) (hdg : decode cc pc = .ok (.tableswitch dflt lo hi offs, len)) (ht : (pc : Int) + dflt = (tgt : Int))
    (k : G w R X nL tgt lv st S) : G w R X nL pc lv (vI x :: st) S := by
  intro H locs ls hP hS hl
  have e := iI_toInt (z := x) hin
  exact lv_tableOut hX.1 hX.2.1 hdg (by rw [e]; exact h1) ht (k H locs ls hP hS hl)
end GC
