/-! ===== constructors: the desk and the reference ===== -/
def kMi (D : va_G) (c : Nat → ClassId) (l : Launch) (y : MethodName) (wsy : List Cond) (rm : Room) (av : List Value) (b : Nat) (e1 e2 : va_E) (x : Int) : Prop :=
  ∀ sz : Nat, Met l y wsy rm (va_Pc av (kPre D c [(b, e1)] sz)) (va_Qi (fun (v : Int32) (_ : Unit) => v = iI x) (fun _ t => va_P D vwCl [(b, e2)] t.heap ∧ va_D (va_A [(b, e1)] sz) [(b, e2)]) (va_A [(b, e1)] sz)) 0 0 (va_A [(b, e1)] sz)
def kRi (D : va_G) (X : gX) (A : Nat → Prop) (b : Nat) (e2 : va_E) (x : Int) : Prop :=
  (gx_h X).sig.returnType = some .int ∧ (gx_h X).locks = false ∧ gx_Q X = MQ (gx_b X) (va_Qi (fun (v : Int32) (_ : Unit) => v = iI x) (fun _ t => va_P D vwCl [(b, e2)] t.heap ∧ va_D A [(b, e2)]) A) (gx_a X) (gx_s X) 0 0 A
theorem kMi.start {D : va_G} {c : Nat → ClassId} {l : Launch} {own n d : String} {wsy ws' : List Cond} {fr lo : Nat} {av : List Value} {b : Nat} {e1 e2 : va_E} {x : Int} {cc : ByteArray} {maxL : Nat}
    (hy : plainName own = true) (hw : wsy = Cond.code ⟨own, n, d⟩ cc maxL (some .int) :: ws') (hlen : (lg_sl av).length ≤ maxL)
    (body : ∀ (X : gX) (A : Nat → Prop), kOK D c { frames := fr, cells := 0, slots := 0, locals := lo } X A cc maxL own wsy → kRi D X A b e2 x → va_D A [(b, e1)] → gx_l X = l → kG D { frames := fr, cells := 0, slots := 0, locals := lo } X A maxL 0 (lv_args 0 av) [] [(b, e1)] 0 0) :
    kMi D c l ⟨own, n, d⟩ wsy { frames := fr, cells := 0, slots := 0, locals := lo } av b e1 e2 x := by
  intro sz
  refine Met.ofW (cc := cc) (maxL := maxL) (ret := some .int) hy hw ?_
  intro p e s m args below meth c1 s₁ B hml hv
  obtain ⟨rfl, hz, hP, hK, hD, hN⟩ := hv
  have hts := atoms_spec (ws := wsy) B.pre
  have hown : s.vm.findClass own = some m.cls := findClass_of_methodNamed B.named
  have hl := lv_entry av (n := maxL) hlen
  subst hz
  rw [lg_entry_eq]
  exact body (p, l, e, s, m, av.toArray, below, meth, c1, 0, 0, MQ below (va_Qi (fun (v : Int32) (_ : Unit) => v = iI x) (fun _ t => va_P D vwCl [(b, e2)] t.heap ∧ va_D (va_A [(b, e1)] s.heap.size) [(b, e2)]) (va_A [(b, e1)] s.heap.size)) av.toArray s 0 0 (va_A [(b, e1)] s.heap.size)) (va_A [(b, e1)] s.heap.size)
    ⟨B.exec, B.bytes, hml, hown, hts, hK, fun q h => Or.inr h, hN⟩ ⟨B.returns, B.notSynchronized, rfl⟩ hD.self rfl s.heap [] _ hP hD.self va_S.rf hl
theorem k_setP {A0 : Nat → Prop} {D : va_G} {ws : va_W} {q b : Nat} {e e2 : va_E} {H H1 : Heap} (hP : va_P D vwCl ws H) (hD : va_D A0 ws) (he : ws[q]? = some (b, e)) (hk : ∀ x : Nat, x < H.size → ¬ va_A [(b, e)] H.size x → H1[x]? = H[x]?) (hP1 : va_P D vwCl [(b, e2)] H1) : va_P D vwCl (ws.set q (b, e2)) H1 ∧ va_D A0 (ws.set q (b, e2)) := by
  refine ⟨fun k x hx => ?_, hD.set he⟩
  by_cases hkq : k = q
  · subst hkq
    rw [List.getElem?_set_self (List.getElem?_eq_some_iff.mp he).1] at hx
    cases hx
    exact hP1 0 _ rfl
  · rw [List.getElem?_set_ne (Ne.symm hkq)] at hx
    refine (hP k x hx).kept (hk x.1 (hP k x hx).lt (fun h => ?_))
    rcases h with ⟨k2, e3, h⟩ | h
    · have h1 : k2 < 1 := (List.getElem?_eq_some_iff.mp h).1
      have h2 : k2 = 0 := by omega
      subst h2
      have h3 : b = x.1 := congrArg Prod.fst (Option.some.inj h)
      exact hkq (hD.1 k q x (b, e) hx he h3.symm)
    · have := (hP k x hx).lt
      omega
section KR2
variable {D : va_G} {c : Nat → ClassId} {R : Room} {X : gX} {A : Nat → Prop} {nL pc : Nat} {cc : ByteArray} {own : String} {Ts : List Cond} {lv : List (Nat × Value)} {st : List Value} {ws : va_W} {ce sl : Nat}
theorem k_isub (hX : kOK D c R X A cc nL own Ts) {a b : Int} (hdg : decode cc pc = .ok (.isub, 1)) (k : kG D R X A nL (pc + 1) lv (vI (a - b) :: st) ws ce sl) : kG D R X A nL pc lv (vI b :: vI a :: st) ws ce sl := by
  intro H locs ls hP hD hS hl
  refine lv_isub hX.1 hX.2.1 hdg ?_
  rw [iI_sub]
  exact k H locs ls hP hD hS hl
theorem k_goto (hX : kOK D c R X A cc nL own Ts) {off : Int} {tgt : Nat} (hdg : decode cc pc = .ok (.goto off, 3)) (ht : (pc : Int) + off = (tgt : Int)) (k : kG D R X A nL tgt lv st ws ce sl) : kG D R X A nL pc lv st ws ce sl := by
  intro H locs ls hP hD hS hl
  exact lv_goto hX.1 hX.2.1 hdg ht (k H locs ls hP hD hS hl)
theorem k_iinc (hX : kOK D c R X A cc nL own Ts) {i : Nat} {n x : Int} {lv2 : List (Nat × Value)} (j : Nat) (hj : lv[j]? = some (i, vI x)) (hn : i < nL) (hl2 : (i, vI (x + n)) :: lv.filter (fun q => !(q.1 == i) && !(q.1 + 1 == i && q.2.category == 2)) = lv2) (hdg : decode cc pc = .ok (.iinc i n, 3)) (k : kG D R X A nL (pc + 3) lv2 st ws ce sl) : kG D R X A nL pc lv st ws ce sl := by
  intro H locs ls hP hD hS hl
  exact lv_iinc hX.1 hX.2.1 hdg hl hj (iI_add x n) hn hl2 (fun ls2 hl3 => k H locs ls2 hP hD hS hl3)
theorem k_icmp_ge (hX : kOK D c R X A cc nL own Ts) {off : Int} {tgt : Nat} {a b : Int} (ha : inI a) (hb : inI b) (hdg : decode cc pc = .ok (.if_icmp .ge off, 3)) (ht : (pc : Int) + off = (tgt : Int)) (kt : b ≤ a → kG D R X A nL tgt lv st ws ce sl) (kf : a < b → kG D R X A nL (pc + 3) lv st ws ce sl) : kG D R X A nL pc lv (vI b :: vI a :: st) ws ce sl := by
  intro H locs ls hP hD hS hl
  exact lv_icmp_ge hX.1 hX.2.1 hdg ht (fun h => kt ((iI_le hb ha).mp h) H locs ls hP hD hS hl) (fun h => kf (Int.not_le.mp (fun q => h ((iI_le hb ha).mpr q))) H locs ls hP hD hS hl)
theorem k_icmp_lt (hX : kOK D c R X A cc nL own Ts) {off : Int} {tgt : Nat} {a b : Int} (ha : inI a) (hb : inI b) (hdg : decode cc pc = .ok (.if_icmp .lt off, 3)) (ht : (pc : Int) + off = (tgt : Int)) (kt : a < b → kG D R X A nL tgt lv st ws ce sl) (kf : b ≤ a → kG D R X A nL (pc + 3) lv st ws ce sl) : kG D R X A nL pc lv (vI b :: vI a :: st) ws ce sl := by
  intro H locs ls hP hD hS hl
  exact lv_icmp_lt hX.1 hX.2.1 hdg ht (fun h => kt ((iI_lt ha hb).mp h) H locs ls hP hD hS hl) (fun h => kf (Int.not_lt.mp (fun q => h ((iI_lt ha hb).mpr q))) H locs ls hP hD hS hl)
theorem k_iret (hX : kOK D c R X A cc nL own Ts) {b : Nat} {e2 : va_E} {x : Int} (hR : kRi D X A b e2 x) (hws : ws = [(b, e2)]) (hce : ce = 0) (hsl : sl = 0) (hdg : decode cc pc = .ok (.ireturn, 1)) : kG D R X A nL pc lv [vI x] ws ce sl := by
  intro H locs ls hP hD hS hl
  subst hce
  subst hsl
  subst hws
  have hlk : (gx_h X).locks = false := hR.2.1
  rw [hR.2.2]
  exact W.iret (v := iI x) hX.1 hX.2.1 hR.1 (fun t ht hW => ⟨⟨iI x, (), rfl, rfl, by rw [ht]; exact hP, hD⟩, hS.F ht⟩) hS.2.2 hdg hlk
theorem k_alenR (hX : kOK D c R X A cc nL own Ts) (q : Nat) {n a : Nat} {f : Nat → Option Nat} (he : ws[q]? = some (a, kRf c n f)) (hdg : decode cc pc = .ok (.arraylength, 1)) (k : kG D R X A nL (pc + 1) lv (vI (n : Int) :: st) ws ce sl) : kG D R X A nL pc lv (.ref a :: st) ws ce sl := by
  intro H locs ls hP hD hS hl
  exact va_alen (D := D) hX.1 hX.2.1 hX.2.2.2.2.2.1 hP q 3 he rfl (iI_ofNat n) hdg (k H locs ls hP hD hS hl)
theorem k_aast (hX : kOK D c R X A cc nL own Ts) (q qk ci : Nat) {n a v : Nat} {vs : List Value} {f : Nat → Option Nat} (he : ws[q]? = some (a, kRf c n f)) (hv : ws[qk]? = some (v, .inr (ci, vs))) (hc : vwCl[ci]? = some (RX4, TX4, 6)) {i : Int} (h0 : 0 ≤ i) (h1 : i < n) (hn : n ≤ 2147483647) (hdg : decode cc pc = .ok (.aastore, 1))
    (k : kG D R X A nL (pc + 1) lv st (ws.set q (a, kRf c n (va_up f i.toNat (some v)))) ce sl) : kG D R X A nL pc lv (.ref v :: vI i :: .ref a :: st) ws ce sl := by
  intro H locs ls hP hD hS hl
  have hi : inI i := ⟨by omega, by omega⟩
  refine va_astq (D := D) (r := (RX4, TX4, 6)) hX.1 hX.2.1 hX.2.2.2.2.2.1 hP hD hS q 3 qk ci he rfl hv hc (iI_vpin h0 h1 hn) hdg (fun H1 locs1 hP1 hD1 hS1 => ?_)
  rw [iI_nat hi] at hP1 hD1
  exact k H1 locs1 ls hP1 hD1 hS1 hl
theorem k_newq (hX : kOK D c R X A cc nL own Ts) {index : Nat} (hm1 : Cond.classLink own index "ParcelDesk$State" ∈ Ts) {n : Int} {N : Nat} (hn : 0 ≤ n ∧ n ≤ 100000) (hN : n.toNat = N) (hce : ce + 1 ≤ R.cells) (hsl : sl + N ≤ R.slots) (hdg : decode cc pc = .ok (.anewarray index, 3))
    (k : ∀ q : Nat, kG D R X A nL (pc + 3) lv (.ref q :: st) (ws ++ [(q, kRf c N (fun _ => none))]) (ce + 1) (sl + N)) : kG D R X A nL pc lv (vI n :: st) ws ce sl := by
  intro H locs ls hP hD hS hl
  have hi : inI n := ⟨by omega, by omega⟩
  refine va_newq hX.1 hX.2.1 hX.2.2.2.1 (hX.2.2.2.2.1 _ hm1) hX.2.2.2.2.2.2.2.2 hX.2.2.2.2.2.1 hP hD hS hX.2.2.2.2.2.2.1 (by rw [← iI_0, iI_lt hi inI_0]; omega) (by rw [iI_nat hi]; exact hN) (by show N * 4 ≤ 536870912; omega) hce hsl hdg (fun q cA H1 hK1 hP1 hD1 hS1 => ?_)
  have hcA : cA = c 3 := by
    obtain ⟨kA, comp, f1, f2, f3, f4⟩ := (hK1.2 4 (cA, .object "ParcelDesk$State") rfl).2
    obtain ⟨kB, comp2, g1, g2, g3, g4⟩ := (hX.2.2.2.2.2.1.2 3 _ rfl).2
    exact Option.some.inj (f4.symm.trans g4)
  subst hcA
  exact k q H1 locs ls hP1 hD1 hS1 hl
theorem k_callI (hX : kOK D c R X A cc nL own Ts) {index maxL b q : Nat} {y : MethodName} {bytes : ByteArray} {wsy ws' : List Cond} {rm : Room} {st2 : List Value} {C : String} {T : u_T} {N ci : Nat} {fs : List Value} {e2 : va_E} {x : Int} (he : ws[q]? = some (b, .inr (ci, fs))) (hc : vwCl[ci]? = some (C, T, N)) (hM : kMi D c (gx_l X) y wsy rm [.ref b] b (.inr (ci, fs)) e2 x) (hT : GoodIn Ts (wsV own index C y wsy)) (hw : wsy = Cond.code y bytes maxL (some .int) :: ws') (hrc : rm.cells = 0) (hrs : rm.slots = 0)
    (hd : y.cls = C ∧ y.cls ≠ "java/lang/invoke/MethodHandle" ∧ y.cls ≠ "java/lang/invoke/VarHandle" ∧ (parseMethodDescriptor y.desc).map (fun d => d.parameters.length) = some 0) (hR : rm.frames + 1 ≤ R.frames ∧ 8 + (maxL + 11) + rm.locals ≤ R.locals) (hst : st = .ref b :: st2) (hsum : (st2.map fun v => v.category).sum ≤ 8) (hf : ce + 0 ≤ R.cells ∧ sl + 0 ≤ R.slots) (hdg : decode cc pc = .ok (.invokevirtual index, 3))
    (k : kG D R X A nL (pc + 3) lv (vI x :: st2) (ws.set q (b, e2)) ce sl) : kG D R X A nL pc lv st ws ce sl := by
  intro H locs ls hP hD hS hl
  have hPc : va_P D vwCl [(b, .inr (ci, fs))] H := fun k2 z hz => by
    have h1 : k2 < 1 := (List.getElem?_eq_some_iff.mp hz).1
    have h2 : k2 = 0 := by omega
    subst h2
    cases hz
    exact hP q _ he
  have hDc : va_D A [(b, (.inr (ci, fs) : va_E))] := ⟨fun i j u v hu hv _ => by have h1 := (List.getElem?_eq_some_iff.mp hu).1; have h2 := (List.getElem?_eq_some_iff.mp hv).1; simp only [List.length_singleton] at h1 h2; omega, fun k2 z hz => by
    have h1 : k2 < 1 := (List.getElem?_eq_some_iff.mp hz).1
    have h2 : k2 = 0 := by omega
    subst h2
    cases hz
    exact hD.2 q _ he⟩
  have hFc : ∀ z, va_A [(b, (.inr (ci, fs) : va_E))] H.size z → A z := by
    intro z h
    rcases h with ⟨k2, e3, h⟩ | h
    · exact hDc.2 k2 (z, e3) h
    · exact hX.2.2.2.2.2.2.1 z (Nat.le_trans hS.1 h)
  refine va_calli (va_runV (As := []) (rest := st2) ⟨hX.1, hX.2.1, hX.2.2.1, hX.2.2.2.1, hX.2.2.2.2.1⟩ (hM H.size) (cwV 0 hX.2.2.2.2.1 hT hw hrc hrs hd hR) ⟨kPre.blind, va_recv hX.2.2.2.2.2.1 hP hc he, fun U hU hW => ⟨rfl, by rw [hU], by rw [hU]; exact hPc, va_K.moved hW.alike hX.2.2.2.2.2.1, hDc.weaken (fun _ _ _ _ => trivial), hX.2.2.2.2.2.2.2.1.warm hW, hX.2.2.2.2.2.2.2.2.moved hW.alike⟩⟩ rfl rfl hl.1 hst (lv_room hsum) hdg hf) hS (fun q _ h => hFc q h) hFc (fun r u t H1 locs1 ht hvm h5 hB hz1 hk1 hS1 => ?_)
  obtain ⟨hP1, hD1⟩ := hB
  rw [ht] at hP1
  subst h5
  obtain ⟨hP2, hD2⟩ := k_setP hP hD he hk1 hP1
  exact k H1 locs1 ls hP2 hD2 hS1 hl
end KR2

set_option maxHeartbeats 4000000 in
set_option maxRecDepth 100000 in
theorem k_X5_addRow {D : va_G} {c : Nat → ClassId} {l : Launch} {h0 q : Nat} {rm wd cn : Int} (hrm : inI rm) (hcn : inI cn) (hlt : cn < rm) :
    kMi D c l yX5_addRow wsX5_addRow { frames := 0, cells := 0, slots := 0, locals := 0 } [.ref h0] h0 (.inr (5, [vI rm, vI wd, .ref q, vI (cn)])) (.inr (5, [vI rm, vI wd, .ref q, vI (cn + 1)])) cn := by
  refine kMi.start (own := RX5) (n := "addRow") (d := "()I") (by decide) rfl (Nat.le_of_ble_eq_true rfl) ?_
  intro X A hX hR hD0 hXl
  refine k_aload_n (pc := 0) hX 0 rfl dX5_addRow_0 ?_
  refine k_get (pc := 1) hX (ci := 5) (fun _ h => List.mem_cons_of_mem _ (List.mem_append_right _ h)) rfl 0 rfl 3 (by decide) (List.mem_of_getElem? (i := 1) rfl) rfl (v := vI (cn)) rfl dX5_addRow_1 ?_
  refine k_aload_n (pc := 4) hX 0 rfl dX5_addRow_4 ?_
  refine k_get (pc := 5) hX (ci := 5) (fun _ h => List.mem_cons_of_mem _ (List.mem_append_right _ h)) rfl 0 rfl 0 (by decide) (List.mem_of_getElem? (i := 2) rfl) rfl (v := vI (rm)) rfl dX5_addRow_5 ?_
  refine k_icmp_lt (pc := 8) (tgt := 13) hX hcn hrm dX5_addRow_8 (by decide) (fun _ => ?_) (fun h => absurd h (by omega))
  refine k_aload_n (pc := 13) hX 0 rfl dX5_addRow_13 ?_
  refine k_dup (pc := 14) hX rfl dX5_addRow_14 ?_
  refine k_get (pc := 15) hX (ci := 5) (fun _ h => List.mem_cons_of_mem _ (List.mem_append_right _ h)) rfl 0 rfl 3 (by decide) (List.mem_of_getElem? (i := 1) rfl) rfl (v := vI (cn)) rfl dX5_addRow_15 ?_
  refine k_iconst (pc := 18) hX dX5_addRow_18 ?_
  refine k_iadd (pc := 19) hX dX5_addRow_19 ?_
  refine k_put (pc := 20) hX (ci := 5) (fun _ h => List.mem_cons_of_mem _ (List.mem_append_right _ h)) rfl tyX5 tyX5_ok nmX5 0 rfl 3 (by decide) (List.mem_of_getElem? (i := 1) rfl) rfl rfl (tyX5_ok 3 (by decide)) rfl (fit_int _) (Nat.le_of_ble_eq_true rfl) dX5_addRow_20 ?_
  refine k_at rfl rfl rfl (ws2 := [(h0, .inr (5, [vI rm, vI wd, .ref q, vI (cn + 1)]))]) rfl rfl rfl ?_
  refine k_aload_n (pc := 23) hX 0 rfl dX5_addRow_23 ?_
  refine k_get (pc := 24) hX (ci := 5) (fun _ h => List.mem_cons_of_mem _ (List.mem_append_right _ h)) rfl 0 rfl 3 (by decide) (List.mem_of_getElem? (i := 1) rfl) rfl (v := vI (cn + 1)) rfl dX5_addRow_24 ?_
  refine k_iconst (pc := 27) hX dX5_addRow_27 ?_
  refine k_isub (pc := 28) hX dX5_addRow_28 ?_
  rw [show cn + 1 - 1 = cn by omega]
  exact k_iret (pc := 29) hX hR rfl rfl rfl dX5_addRow_29

/-- a new desk: its cells; v k: the addresses of the k-th state's cells -/
def dkL (c : Nat → ClassId) (b : Nat) (u : Nat → Nat) (v : Nat → Nat → Nat) : va_W := [(b, .inr (6, [.ref (v 0 0), .ref (u 1), vI 0, vI 0, .ref (u 2), vI 0, .ref (u 3), .ref (u 5)]))] ++ (stL c (v 0 0) (v 0)) ++ [(u 1, kRf c 4 (va_up (va_up (va_up (va_up (fun _ => none) 0 (some (v 1 0))) 1 (some (v 2 0))) 2 (some (v 3 0))) 3 (some (v 4 0)))), (u 2, kI c 60 z0F), (u 3, .inr (1, [.ref (u 4), vI 0, vI 0, vI 0, vI 0, vI 0, vI 0, vI 0, vI 0])), (u 4, kI c 60 z0F), (u 5, .inr (5, [vI 1, vI 22, .ref (u 6), vI 1])), (u 6, kI c 22 z0F)] ++ (stL c (v 1 0) (v 1)) ++ (stL c (v 2 0) (v 2)) ++ (stL c (v 3 0) (v 3)) ++ (stL c (v 4 0) (v 4))
/-- the addresses of a desk as one row: 0 to 6 its own, 7 + 32 * k + i the i-th of the k-th state -/
def dkU (u : Nat → Nat) : Nat → Nat → Nat := fun k i => u (7 + 32 * k + i)

set_option maxHeartbeats 8000000 in
set_option maxRecDepth 100000 in
theorem c_X6_init {D : va_G} {c : Nat → ClassId} {l : Launch} {h0 : Nat}  :
    kM D c l yX6_init wsX6_init { frames := 4, cells := 91, slots := 9289, locals := 83 } [.ref h0] [(h0, .inr (6, [.null, .null, vI 0, vI 0, .null, vI 0, .null, .null]))] (fun u => dkL c h0 u (dkU u)) 91 9289 := by
  refine kM.start (own := RX6) (n := "<init>") (d := "()V") (by decide) rfl rfl (Nat.le_of_ble_eq_true rfl) ?_
  intro X A hX hin hR hD0 hXl
  subst hXl
  refine k_at rfl (lv2 := [(0, .ref h0)]) rfl rfl (ws2 := [(h0, .inr (6, [.null, .null, vI 0, vI 0, .null, vI 0, .null, .null]))]) rfl rfl rfl ?_
  refine k_aload_n (pc := 0) hX 0 rfl dX6_init_0 ?_
  refine k_objInit (pc := 1) hX (List.mem_of_getElem? (i := 1) rfl) (List.mem_of_getElem? (i := 2) rfl) (List.mem_of_getElem? (i := 3) rfl) (Nat.le_of_ble_eq_true rfl) (Nat.le_of_ble_eq_true rfl) dX6_init_1 ?_
  refine k_aload_n (pc := 4) hX 0 rfl dX6_init_4 ?_
  refine k_new (pc := 5) hX (ci := 4) (C := RX4) (T := TX4) (N := 6) (fun _ h => List.mem_cons_of_mem _ (List.mem_append_left _ (List.mem_append_left _ (List.mem_append_left _ (List.mem_append_left _ (List.mem_append_left _ (List.mem_append_left _ (List.mem_append_right _ h)))))))) rfl tyX4 tyX4_ok (List.mem_of_getElem? (i := 4) rfl) (List.mem_of_getElem? (i := 5) rfl) (List.mem_of_getElem? (i := 6) rfl) (fs := [.null, .null, .null, .null, .null, .null]) (fun j hj => by rcases (show j = 0 ∨ j = 1 ∨ j = 2 ∨ j = 3 ∨ j = 4 ∨ j = 5 by omega) with rfl | rfl | rfl | rfl | rfl | rfl <;> rfl) (by show 0 + 1 ≤ 91; omega) (by show 0 + 6 ≤ 9289; omega) dX6_init_5 (fun q5 => ?_)
  refine k_dup (pc := 8) hX rfl dX6_init_8 ?_
  refine k_initN (pc := 9) hX (n := 0) (b := q5) (As := []) (st2 := [.ref q5, .ref h0]) (wr := [(h0, .inr (6, [.null, .null, vI 0, vI 0, .null, vI 0, .null, .null]))]) (c_X4_init) ggX6_init_X4_init rfl rfl rfl (List.mem_of_getElem? (i := 6) rfl) (List.mem_of_getElem? (i := 0) rfl) (List.mem_of_getElem? (i := 19) rfl) rfl (by decide +kernel) ⟨Nat.le_of_ble_eq_true rfl, Nat.le_of_ble_eq_true rfl⟩ rfl rfl (Nat.le_of_ble_eq_true rfl) (by show 1 + 16 ≤ 91 ∧ 6 + 1820 ≤ 9289; omega) dX6_init_9 (fun u9 => ?_)
  refine k_at rfl rfl (st2 := [.ref q5, .ref h0]) rfl (ws2 := [(h0, .inr (6, [.null, .null, vI 0, vI 0, .null, vI 0, .null, .null]))] ++ (stL c q5 u9)) rfl (ce2 := 17) rfl (sl2 := 1826) rfl ?_
  refine k_putF (pc := 12) hX hin (ci := 6) (fun _ h => List.mem_cons_of_mem _ (List.mem_append_left _ (List.mem_append_left _ (List.mem_append_left _ (List.mem_append_left _ (List.mem_append_left _ (List.mem_append_right _ h))))))) rfl tyX6 tyX6_ok nmX6 0 rfl 0 (by decide) (List.mem_of_getElem? (i := 7) rfl) rfl rfl rfl (tyX6_ok 0 (by decide)) rfl (by rfl) (Nat.le_of_ble_eq_true rfl) dX6_init_12 ?_
  refine k_at rfl rfl (st2 := []) rfl (ws2 := [(h0, .inr (6, [.ref q5, .null, vI 0, vI 0, .null, vI 0, .null, .null]))] ++ (stL c q5 u9)) rfl (ce2 := 17) rfl (sl2 := 1826) rfl ?_
  refine k_aload_n (pc := 15) hX 0 rfl dX6_init_15 ?_
  refine k_iconst (pc := 16) hX dX6_init_16 ?_
  refine k_newq (pc := 17) hX (List.mem_of_getElem? (i := 4) rfl) (N := 4) (by decide) rfl (by show 17 + 1 ≤ 91; omega) (by show 1826 + 4 ≤ 9289; omega) dX6_init_17 (fun q17 => ?_)
  refine k_at rfl rfl (st2 := [.ref q17, .ref h0]) rfl (ws2 := [(h0, .inr (6, [.ref q5, .null, vI 0, vI 0, .null, vI 0, .null, .null]))] ++ (stL c q5 u9) ++ [(q17, kRf c 4 (fun _ => none))]) rfl (ce2 := 18) rfl (sl2 := 1830) rfl ?_
  refine k_putF (pc := 20) hX hin (ci := 6) (fun _ h => List.mem_cons_of_mem _ (List.mem_append_left _ (List.mem_append_left _ (List.mem_append_left _ (List.mem_append_left _ (List.mem_append_left _ (List.mem_append_right _ h))))))) rfl tyX6 tyX6_ok nmX6 0 rfl 1 (by decide) (List.mem_of_getElem? (i := 8) rfl) rfl rfl rfl (tyX6_ok 1 (by decide)) rfl (by rfl) (Nat.le_of_ble_eq_true rfl) dX6_init_20 ?_
  refine k_at rfl rfl (st2 := []) rfl (ws2 := [(h0, .inr (6, [.ref q5, .ref q17, vI 0, vI 0, .null, vI 0, .null, .null]))] ++ (stL c q5 u9) ++ [(q17, kRf c 4 (fun _ => none))]) rfl (ce2 := 18) rfl (sl2 := 1830) rfl ?_
  refine k_aload_n (pc := 23) hX 0 rfl dX6_init_23 ?_
  refine k_bipush (pc := 24) hX (by decide) dX6_init_24 ?_
  refine k_newi (pc := 26) hX (List.mem_of_getElem? (i := 9) rfl) (N := 60) (by decide) rfl (by show 18 + 1 ≤ 91; omega) (by show 1830 + 60 ≤ 9289; omega) dX6_init_26 (fun q26 => ?_)
  refine k_at rfl rfl (st2 := [.ref q26, .ref h0]) rfl (ws2 := [(h0, .inr (6, [.ref q5, .ref q17, vI 0, vI 0, .null, vI 0, .null, .null]))] ++ (stL c q5 u9) ++ [(q17, kRf c 4 (fun _ => none)), (q26, kI c 60 (z0F))]) rfl (ce2 := 19) rfl (sl2 := 1890) rfl ?_
  refine k_putF (pc := 28) hX hin (ci := 6) (fun _ h => List.mem_cons_of_mem _ (List.mem_append_left _ (List.mem_append_left _ (List.mem_append_left _ (List.mem_append_left _ (List.mem_append_left _ (List.mem_append_right _ h))))))) rfl tyX6 tyX6_ok nmX6 0 rfl 4 (by decide) (List.mem_of_getElem? (i := 10) rfl) rfl rfl rfl (tyX6_ok 4 (by decide)) rfl (by rfl) (Nat.le_of_ble_eq_true rfl) dX6_init_28 ?_
  refine k_at rfl rfl (st2 := []) rfl (ws2 := [(h0, .inr (6, [.ref q5, .ref q17, vI 0, vI 0, .ref q26, vI 0, .null, .null]))] ++ (stL c q5 u9) ++ [(q17, kRf c 4 (fun _ => none)), (q26, kI c 60 (z0F))]) rfl (ce2 := 19) rfl (sl2 := 1890) rfl ?_
  refine k_aload_n (pc := 31) hX 0 rfl dX6_init_31 ?_
  refine k_new (pc := 32) hX (ci := 1) (C := RX1) (T := TX1) (N := 9) (fun _ h => List.mem_cons_of_mem _ (List.mem_append_left _ (List.mem_append_left _ (List.mem_append_left _ (List.mem_append_left _ (List.mem_append_right _ h)))))) rfl tyX1 tyX1_ok (List.mem_of_getElem? (i := 11) rfl) (List.mem_of_getElem? (i := 12) rfl) (List.mem_of_getElem? (i := 13) rfl) (fs := [.null, vI 0, vI 0, vI 0, vI 0, vI 0, vI 0, vI 0, vI 0]) (fun j hj => by rcases (show j = 0 ∨ j = 1 ∨ j = 2 ∨ j = 3 ∨ j = 4 ∨ j = 5 ∨ j = 6 ∨ j = 7 ∨ j = 8 by omega) with rfl | rfl | rfl | rfl | rfl | rfl | rfl | rfl | rfl <;> rfl) (by show 19 + 1 ≤ 91; omega) (by show 1890 + 9 ≤ 9289; omega) dX6_init_32 (fun q32 => ?_)
  refine k_dup (pc := 35) hX rfl dX6_init_35 ?_
  refine k_initN (pc := 36) hX (n := 0) (b := q32) (As := []) (st2 := [.ref q32, .ref h0]) (wr := [(h0, .inr (6, [.ref q5, .ref q17, vI 0, vI 0, .ref q26, vI 0, .null, .null]))] ++ (stL c q5 u9) ++ [(q17, kRf c 4 (fun _ => none)), (q26, kI c 60 (z0F))]) (c_X1_init) ggX6_init_X1_init rfl rfl rfl (List.mem_of_getElem? (i := 13) rfl) (List.mem_of_getElem? (i := 4) rfl) (List.mem_of_getElem? (i := 66) rfl) rfl (by decide +kernel) ⟨Nat.le_of_ble_eq_true rfl, Nat.le_of_ble_eq_true rfl⟩ rfl rfl (Nat.le_of_ble_eq_true rfl) (by show 20 + 1 ≤ 91 ∧ 1899 + 60 ≤ 9289; omega) dX6_init_36 (fun u36 => ?_)
  refine k_at rfl rfl (st2 := [.ref q32, .ref h0]) rfl (ws2 := [(h0, .inr (6, [.ref q5, .ref q17, vI 0, vI 0, .ref q26, vI 0, .null, .null]))] ++ (stL c q5 u9) ++ [(q17, kRf c 4 (fun _ => none)), (q26, kI c 60 (z0F)), (q32, .inr (1, [.ref (u36 1), vI 0, vI 0, vI 0, vI 0, vI 0, vI 0, vI 0, vI 0])), ((u36 1), kI c 60 (z0F))]) rfl (ce2 := 21) rfl (sl2 := 1959) rfl ?_
  refine k_putF (pc := 39) hX hin (ci := 6) (fun _ h => List.mem_cons_of_mem _ (List.mem_append_left _ (List.mem_append_left _ (List.mem_append_left _ (List.mem_append_left _ (List.mem_append_left _ (List.mem_append_right _ h))))))) rfl tyX6 tyX6_ok nmX6 0 rfl 6 (by decide) (List.mem_of_getElem? (i := 14) rfl) rfl rfl rfl (tyX6_ok 6 (by decide)) rfl (by rfl) (Nat.le_of_ble_eq_true rfl) dX6_init_39 ?_
  refine k_at rfl rfl (st2 := []) rfl (ws2 := [(h0, .inr (6, [.ref q5, .ref q17, vI 0, vI 0, .ref q26, vI 0, .ref q32, .null]))] ++ (stL c q5 u9) ++ [(q17, kRf c 4 (fun _ => none)), (q26, kI c 60 (z0F)), (q32, .inr (1, [.ref (u36 1), vI 0, vI 0, vI 0, vI 0, vI 0, vI 0, vI 0, vI 0])), ((u36 1), kI c 60 (z0F))]) rfl (ce2 := 21) rfl (sl2 := 1959) rfl ?_
  refine k_aload_n (pc := 42) hX 0 rfl dX6_init_42 ?_
  refine k_new (pc := 43) hX (ci := 5) (C := RX5) (T := TX5) (N := 4) (fun _ h => List.mem_cons_of_mem _ (List.mem_append_left _ (List.mem_append_left _ (List.mem_append_left _ (List.mem_append_right _ h))))) rfl tyX5 tyX5_ok (List.mem_of_getElem? (i := 15) rfl) (List.mem_of_getElem? (i := 16) rfl) (List.mem_of_getElem? (i := 17) rfl) (fs := [vI 0, vI 0, .null, vI 0]) (fun j hj => by rcases (show j = 0 ∨ j = 1 ∨ j = 2 ∨ j = 3 by omega) with rfl | rfl | rfl | rfl <;> rfl) (by show 21 + 1 ≤ 91; omega) (by show 1959 + 4 ≤ 9289; omega) dX6_init_43 (fun q43 => ?_)
  refine k_dup (pc := 46) hX rfl dX6_init_46 ?_
  refine k_iconst (pc := 47) hX dX6_init_47 ?_
  refine k_bipush (pc := 48) hX (by decide) dX6_init_48 ?_
  refine k_init (pc := 50) hX (n := 2) (b := q43) (As := [vI (1), vI (22)]) (st2 := [.ref q43, .ref h0]) (wr := [(h0, .inr (6, [.ref q5, .ref q17, vI 0, vI 0, .ref q26, vI 0, .ref q32, .null]))] ++ (stL c q5 u9) ++ [(q17, kRf c 4 (fun _ => none)), (q26, kI c 60 (z0F)), (q32, .inr (1, [.ref (u36 1), vI 0, vI 0, vI 0, vI 0, vI 0, vI 0, vI 0, vI 0])), ((u36 1), kI c 60 (z0F))]) (c_X5_init (rm := 1) (wd := 22) (n := 22) (by decide) (by decide) rfl) gX6_init_X5_init rfl rfl rfl (List.mem_of_getElem? (i := 17) rfl) (List.mem_of_getElem? (i := 70) rfl) (List.mem_of_getElem? (i := 55) rfl) rfl (by decide +kernel) ⟨Nat.le_of_ble_eq_true rfl, Nat.le_of_ble_eq_true rfl⟩ rfl rfl (Nat.le_of_ble_eq_true rfl) (by show 22 + 1 ≤ 91 ∧ 1963 + 22 ≤ 9289; omega) dX6_init_50 (fun u50 => ?_)
  refine k_at rfl rfl (st2 := [.ref q43, .ref h0]) rfl (ws2 := [(h0, .inr (6, [.ref q5, .ref q17, vI 0, vI 0, .ref q26, vI 0, .ref q32, .null]))] ++ (stL c q5 u9) ++ [(q17, kRf c 4 (fun _ => none)), (q26, kI c 60 (z0F)), (q32, .inr (1, [.ref (u36 1), vI 0, vI 0, vI 0, vI 0, vI 0, vI 0, vI 0, vI 0])), ((u36 1), kI c 60 (z0F)), (q43, .inr (5, [vI (1), vI (22), .ref (u50 1), vI 0])), ((u50 1), kI c 22 (z0F))]) rfl (ce2 := 23) rfl (sl2 := 1985) rfl ?_
  refine k_putF (pc := 53) hX hin (ci := 6) (fun _ h => List.mem_cons_of_mem _ (List.mem_append_left _ (List.mem_append_left _ (List.mem_append_left _ (List.mem_append_left _ (List.mem_append_left _ (List.mem_append_right _ h))))))) rfl tyX6 tyX6_ok nmX6 0 rfl 7 (by decide) (List.mem_of_getElem? (i := 18) rfl) rfl rfl rfl (tyX6_ok 7 (by decide)) rfl (by rfl) (Nat.le_of_ble_eq_true rfl) dX6_init_53 ?_
  refine k_at rfl rfl (st2 := []) rfl (ws2 := [(h0, .inr (6, [.ref q5, .ref q17, vI 0, vI 0, .ref q26, vI 0, .ref q32, .ref q43]))] ++ (stL c q5 u9) ++ [(q17, kRf c 4 (fun _ => none)), (q26, kI c 60 (z0F)), (q32, .inr (1, [.ref (u36 1), vI 0, vI 0, vI 0, vI 0, vI 0, vI 0, vI 0, vI 0])), ((u36 1), kI c 60 (z0F)), (q43, .inr (5, [vI (1), vI (22), .ref (u50 1), vI 0])), ((u50 1), kI c 22 (z0F))]) rfl (ce2 := 23) rfl (sl2 := 1985) rfl ?_
  refine k_iconst (pc := 56) hX dX6_init_56 ?_
  refine k_istore_n (pc := 57) hX (lv2 := [(1, vI (0)), (0, .ref h0)]) rfl (by decide) rfl dX6_init_57 ?_
  refine k_iload_n (pc := 58) hX 0 rfl dX6_init_58 ?_
  refine k_aload_n (pc := 59) hX 1 rfl dX6_init_59 ?_
  refine k_get (pc := 60) hX (ci := 6) (fun _ h => List.mem_cons_of_mem _ (List.mem_append_left _ (List.mem_append_left _ (List.mem_append_left _ (List.mem_append_left _ (List.mem_append_left _ (List.mem_append_right _ h))))))) rfl 0 rfl 1 (by decide) (List.mem_of_getElem? (i := 8) rfl) rfl (v := .ref q17) rfl dX6_init_60 ?_
  refine k_alenR (pc := 63) hX 18 rfl dX6_init_63 ?_
  refine k_at rfl rfl (st2 := [vI (4), vI (0)]) rfl rfl rfl rfl ?_
  refine k_icmp_ge (pc := 64) (tgt := 86) hX ⟨by decide, by decide⟩ ⟨by decide, by decide⟩ dX6_init_64 (by decide) (fun h => absurd h (by decide)) (fun _ => ?_)
  refine k_aload_n (pc := 67) hX 1 rfl dX6_init_67 ?_
  refine k_get (pc := 68) hX (ci := 6) (fun _ h => List.mem_cons_of_mem _ (List.mem_append_left _ (List.mem_append_left _ (List.mem_append_left _ (List.mem_append_left _ (List.mem_append_left _ (List.mem_append_right _ h))))))) rfl 0 rfl 1 (by decide) (List.mem_of_getElem? (i := 8) rfl) rfl (v := .ref q17) rfl dX6_init_68 ?_
  refine k_iload_n (pc := 71) hX 0 rfl dX6_init_71 ?_
  refine k_new (pc := 72) hX (ci := 4) (C := RX4) (T := TX4) (N := 6) (fun _ h => List.mem_cons_of_mem _ (List.mem_append_left _ (List.mem_append_left _ (List.mem_append_left _ (List.mem_append_left _ (List.mem_append_left _ (List.mem_append_left _ (List.mem_append_right _ h)))))))) rfl tyX4 tyX4_ok (List.mem_of_getElem? (i := 4) rfl) (List.mem_of_getElem? (i := 5) rfl) (List.mem_of_getElem? (i := 6) rfl) (fs := [.null, .null, .null, .null, .null, .null]) (fun j hj => by rcases (show j = 0 ∨ j = 1 ∨ j = 2 ∨ j = 3 ∨ j = 4 ∨ j = 5 by omega) with rfl | rfl | rfl | rfl | rfl | rfl <;> rfl) (by show 23 + 1 ≤ 91; omega) (by show 1985 + 6 ≤ 9289; omega) dX6_init_72 (fun q72 => ?_)
  refine k_dup (pc := 75) hX rfl dX6_init_75 ?_
  refine k_initN (pc := 76) hX (n := 0) (b := q72) (As := []) (st2 := [.ref q72, vI (0), .ref q17]) (wr := [(h0, .inr (6, [.ref q5, .ref q17, vI 0, vI 0, .ref q26, vI 0, .ref q32, .ref q43]))] ++ (stL c q5 u9) ++ [(q17, kRf c 4 (fun _ => none)), (q26, kI c 60 (z0F)), (q32, .inr (1, [.ref (u36 1), vI 0, vI 0, vI 0, vI 0, vI 0, vI 0, vI 0, vI 0])), ((u36 1), kI c 60 (z0F)), (q43, .inr (5, [vI (1), vI (22), .ref (u50 1), vI 0])), ((u50 1), kI c 22 (z0F))]) (c_X4_init) ggX6_init_X4_init rfl rfl rfl (List.mem_of_getElem? (i := 6) rfl) (List.mem_of_getElem? (i := 0) rfl) (List.mem_of_getElem? (i := 19) rfl) rfl (by decide +kernel) ⟨Nat.le_of_ble_eq_true rfl, Nat.le_of_ble_eq_true rfl⟩ rfl rfl (Nat.le_of_ble_eq_true rfl) (by show 24 + 16 ≤ 91 ∧ 1991 + 1820 ≤ 9289; omega) dX6_init_76 (fun u76 => ?_)
  refine k_at rfl rfl (st2 := [.ref q72, vI (0), .ref q17]) rfl (ws2 := [(h0, .inr (6, [.ref q5, .ref q17, vI 0, vI 0, .ref q26, vI 0, .ref q32, .ref q43]))] ++ (stL c q5 u9) ++ [(q17, kRf c 4 (fun _ => none)), (q26, kI c 60 (z0F)), (q32, .inr (1, [.ref (u36 1), vI 0, vI 0, vI 0, vI 0, vI 0, vI 0, vI 0, vI 0])), ((u36 1), kI c 60 (z0F)), (q43, .inr (5, [vI (1), vI (22), .ref (u50 1), vI 0])), ((u50 1), kI c 22 (z0F))] ++ (stL c q72 u76)) rfl (ce2 := 40) rfl (sl2 := 3811) rfl ?_
  refine k_aast (pc := 79) hX 18 24 4 rfl rfl rfl (by decide) (by decide) (by decide) dX6_init_79 ?_
  refine k_at rfl rfl (st2 := []) rfl (ws2 := [(h0, .inr (6, [.ref q5, .ref q17, vI 0, vI 0, .ref q26, vI 0, .ref q32, .ref q43]))] ++ (stL c q5 u9) ++ [(q17, kRf c 4 (va_up (fun _ => none) 0 (some q72))), (q26, kI c 60 (z0F)), (q32, .inr (1, [.ref (u36 1), vI 0, vI 0, vI 0, vI 0, vI 0, vI 0, vI 0, vI 0])), ((u36 1), kI c 60 (z0F)), (q43, .inr (5, [vI (1), vI (22), .ref (u50 1), vI 0])), ((u50 1), kI c 22 (z0F))] ++ (stL c q72 u76)) rfl (ce2 := 40) rfl (sl2 := 3811) rfl ?_
  refine k_iinc (pc := 80) hX (lv2 := [(1, vI (1)), (0, .ref h0)]) 0 rfl (by decide) rfl dX6_init_80 ?_
  refine k_goto (pc := 83) (tgt := 58) hX dX6_init_83 (by decide) ?_
  refine k_iload_n (pc := 58) hX 0 rfl dX6_init_58 ?_
  refine k_aload_n (pc := 59) hX 1 rfl dX6_init_59 ?_
  refine k_get (pc := 60) hX (ci := 6) (fun _ h => List.mem_cons_of_mem _ (List.mem_append_left _ (List.mem_append_left _ (List.mem_append_left _ (List.mem_append_left _ (List.mem_append_left _ (List.mem_append_right _ h))))))) rfl 0 rfl 1 (by decide) (List.mem_of_getElem? (i := 8) rfl) rfl (v := .ref q17) rfl dX6_init_60 ?_
  refine k_alenR (pc := 63) hX 18 rfl dX6_init_63 ?_
  refine k_at rfl rfl (st2 := [vI (4), vI (1)]) rfl rfl rfl rfl ?_
  refine k_icmp_ge (pc := 64) (tgt := 86) hX ⟨by decide, by decide⟩ ⟨by decide, by decide⟩ dX6_init_64 (by decide) (fun h => absurd h (by decide)) (fun _ => ?_)
  refine k_aload_n (pc := 67) hX 1 rfl dX6_init_67 ?_
  refine k_get (pc := 68) hX (ci := 6) (fun _ h => List.mem_cons_of_mem _ (List.mem_append_left _ (List.mem_append_left _ (List.mem_append_left _ (List.mem_append_left _ (List.mem_append_left _ (List.mem_append_right _ h))))))) rfl 0 rfl 1 (by decide) (List.mem_of_getElem? (i := 8) rfl) rfl (v := .ref q17) rfl dX6_init_68 ?_
  refine k_iload_n (pc := 71) hX 0 rfl dX6_init_71 ?_
  refine k_new (pc := 72) hX (ci := 4) (C := RX4) (T := TX4) (N := 6) (fun _ h => List.mem_cons_of_mem _ (List.mem_append_left _ (List.mem_append_left _ (List.mem_append_left _ (List.mem_append_left _ (List.mem_append_left _ (List.mem_append_left _ (List.mem_append_right _ h)))))))) rfl tyX4 tyX4_ok (List.mem_of_getElem? (i := 4) rfl) (List.mem_of_getElem? (i := 5) rfl) (List.mem_of_getElem? (i := 6) rfl) (fs := [.null, .null, .null, .null, .null, .null]) (fun j hj => by rcases (show j = 0 ∨ j = 1 ∨ j = 2 ∨ j = 3 ∨ j = 4 ∨ j = 5 by omega) with rfl | rfl | rfl | rfl | rfl | rfl <;> rfl) (by show 40 + 1 ≤ 91; omega) (by show 3811 + 6 ≤ 9289; omega) dX6_init_72 (fun q72_2 => ?_)
  refine k_dup (pc := 75) hX rfl dX6_init_75 ?_
  refine k_initN (pc := 76) hX (n := 0) (b := q72_2) (As := []) (st2 := [.ref q72_2, vI (1), .ref q17]) (wr := [(h0, .inr (6, [.ref q5, .ref q17, vI 0, vI 0, .ref q26, vI 0, .ref q32, .ref q43]))] ++ (stL c q5 u9) ++ [(q17, kRf c 4 (va_up (fun _ => none) 0 (some q72))), (q26, kI c 60 (z0F)), (q32, .inr (1, [.ref (u36 1), vI 0, vI 0, vI 0, vI 0, vI 0, vI 0, vI 0, vI 0])), ((u36 1), kI c 60 (z0F)), (q43, .inr (5, [vI (1), vI (22), .ref (u50 1), vI 0])), ((u50 1), kI c 22 (z0F))] ++ (stL c q72 u76)) (c_X4_init) ggX6_init_X4_init rfl rfl rfl (List.mem_of_getElem? (i := 6) rfl) (List.mem_of_getElem? (i := 0) rfl) (List.mem_of_getElem? (i := 19) rfl) rfl (by decide +kernel) ⟨Nat.le_of_ble_eq_true rfl, Nat.le_of_ble_eq_true rfl⟩ rfl rfl (Nat.le_of_ble_eq_true rfl) (by show 41 + 16 ≤ 91 ∧ 3817 + 1820 ≤ 9289; omega) dX6_init_76 (fun u76_2 => ?_)
  refine k_at rfl rfl (st2 := [.ref q72_2, vI (1), .ref q17]) rfl (ws2 := [(h0, .inr (6, [.ref q5, .ref q17, vI 0, vI 0, .ref q26, vI 0, .ref q32, .ref q43]))] ++ (stL c q5 u9) ++ [(q17, kRf c 4 (va_up (fun _ => none) 0 (some q72))), (q26, kI c 60 (z0F)), (q32, .inr (1, [.ref (u36 1), vI 0, vI 0, vI 0, vI 0, vI 0, vI 0, vI 0, vI 0])), ((u36 1), kI c 60 (z0F)), (q43, .inr (5, [vI (1), vI (22), .ref (u50 1), vI 0])), ((u50 1), kI c 22 (z0F))] ++ (stL c q72 u76) ++ (stL c q72_2 u76_2)) rfl (ce2 := 57) rfl (sl2 := 5637) rfl ?_
  refine k_aast (pc := 79) hX 18 41 4 rfl rfl rfl (by decide) (by decide) (by decide) dX6_init_79 ?_
  refine k_at rfl rfl (st2 := []) rfl (ws2 := [(h0, .inr (6, [.ref q5, .ref q17, vI 0, vI 0, .ref q26, vI 0, .ref q32, .ref q43]))] ++ (stL c q5 u9) ++ [(q17, kRf c 4 (va_up (va_up (fun _ => none) 0 (some q72)) 1 (some q72_2))), (q26, kI c 60 (z0F)), (q32, .inr (1, [.ref (u36 1), vI 0, vI 0, vI 0, vI 0, vI 0, vI 0, vI 0, vI 0])), ((u36 1), kI c 60 (z0F)), (q43, .inr (5, [vI (1), vI (22), .ref (u50 1), vI 0])), ((u50 1), kI c 22 (z0F))] ++ (stL c q72 u76) ++ (stL c q72_2 u76_2)) rfl (ce2 := 57) rfl (sl2 := 5637) rfl ?_
  refine k_iinc (pc := 80) hX (lv2 := [(1, vI (2)), (0, .ref h0)]) 0 rfl (by decide) rfl dX6_init_80 ?_
  refine k_goto (pc := 83) (tgt := 58) hX dX6_init_83 (by decide) ?_
  refine k_iload_n (pc := 58) hX 0 rfl dX6_init_58 ?_
  refine k_aload_n (pc := 59) hX 1 rfl dX6_init_59 ?_
  refine k_get (pc := 60) hX (ci := 6) (fun _ h => List.mem_cons_of_mem _ (List.mem_append_left _ (List.mem_append_left _ (List.mem_append_left _ (List.mem_append_left _ (List.mem_append_left _ (List.mem_append_right _ h))))))) rfl 0 rfl 1 (by decide) (List.mem_of_getElem? (i := 8) rfl) rfl (v := .ref q17) rfl dX6_init_60 ?_
  refine k_alenR (pc := 63) hX 18 rfl dX6_init_63 ?_
  refine k_at rfl rfl (st2 := [vI (4), vI (2)]) rfl rfl rfl rfl ?_
  refine k_icmp_ge (pc := 64) (tgt := 86) hX ⟨by decide, by decide⟩ ⟨by decide, by decide⟩ dX6_init_64 (by decide) (fun h => absurd h (by decide)) (fun _ => ?_)
  refine k_aload_n (pc := 67) hX 1 rfl dX6_init_67 ?_
  refine k_get (pc := 68) hX (ci := 6) (fun _ h => List.mem_cons_of_mem _ (List.mem_append_left _ (List.mem_append_left _ (List.mem_append_left _ (List.mem_append_left _ (List.mem_append_left _ (List.mem_append_right _ h))))))) rfl 0 rfl 1 (by decide) (List.mem_of_getElem? (i := 8) rfl) rfl (v := .ref q17) rfl dX6_init_68 ?_
  refine k_iload_n (pc := 71) hX 0 rfl dX6_init_71 ?_
  refine k_new (pc := 72) hX (ci := 4) (C := RX4) (T := TX4) (N := 6) (fun _ h => List.mem_cons_of_mem _ (List.mem_append_left _ (List.mem_append_left _ (List.mem_append_left _ (List.mem_append_left _ (List.mem_append_left _ (List.mem_append_left _ (List.mem_append_right _ h)))))))) rfl tyX4 tyX4_ok (List.mem_of_getElem? (i := 4) rfl) (List.mem_of_getElem? (i := 5) rfl) (List.mem_of_getElem? (i := 6) rfl) (fs := [.null, .null, .null, .null, .null, .null]) (fun j hj => by rcases (show j = 0 ∨ j = 1 ∨ j = 2 ∨ j = 3 ∨ j = 4 ∨ j = 5 by omega) with rfl | rfl | rfl | rfl | rfl | rfl <;> rfl) (by show 57 + 1 ≤ 91; omega) (by show 5637 + 6 ≤ 9289; omega) dX6_init_72 (fun q72_3 => ?_)
  refine k_dup (pc := 75) hX rfl dX6_init_75 ?_
  refine k_initN (pc := 76) hX (n := 0) (b := q72_3) (As := []) (st2 := [.ref q72_3, vI (2), .ref q17]) (wr := [(h0, .inr (6, [.ref q5, .ref q17, vI 0, vI 0, .ref q26, vI 0, .ref q32, .ref q43]))] ++ (stL c q5 u9) ++ [(q17, kRf c 4 (va_up (va_up (fun _ => none) 0 (some q72)) 1 (some q72_2))), (q26, kI c 60 (z0F)), (q32, .inr (1, [.ref (u36 1), vI 0, vI 0, vI 0, vI 0, vI 0, vI 0, vI 0, vI 0])), ((u36 1), kI c 60 (z0F)), (q43, .inr (5, [vI (1), vI (22), .ref (u50 1), vI 0])), ((u50 1), kI c 22 (z0F))] ++ (stL c q72 u76) ++ (stL c q72_2 u76_2)) (c_X4_init) ggX6_init_X4_init rfl rfl rfl (List.mem_of_getElem? (i := 6) rfl) (List.mem_of_getElem? (i := 0) rfl) (List.mem_of_getElem? (i := 19) rfl) rfl (by decide +kernel) ⟨Nat.le_of_ble_eq_true rfl, Nat.le_of_ble_eq_true rfl⟩ rfl rfl (Nat.le_of_ble_eq_true rfl) (by show 58 + 16 ≤ 91 ∧ 5643 + 1820 ≤ 9289; omega) dX6_init_76 (fun u76_3 => ?_)
  refine k_at rfl rfl (st2 := [.ref q72_3, vI (2), .ref q17]) rfl (ws2 := [(h0, .inr (6, [.ref q5, .ref q17, vI 0, vI 0, .ref q26, vI 0, .ref q32, .ref q43]))] ++ (stL c q5 u9) ++ [(q17, kRf c 4 (va_up (va_up (fun _ => none) 0 (some q72)) 1 (some q72_2))), (q26, kI c 60 (z0F)), (q32, .inr (1, [.ref (u36 1), vI 0, vI 0, vI 0, vI 0, vI 0, vI 0, vI 0, vI 0])), ((u36 1), kI c 60 (z0F)), (q43, .inr (5, [vI (1), vI (22), .ref (u50 1), vI 0])), ((u50 1), kI c 22 (z0F))] ++ (stL c q72 u76) ++ (stL c q72_2 u76_2) ++ (stL c q72_3 u76_3)) rfl (ce2 := 74) rfl (sl2 := 7463) rfl ?_
  refine k_aast (pc := 79) hX 18 58 4 rfl rfl rfl (by decide) (by decide) (by decide) dX6_init_79 ?_
  refine k_at rfl rfl (st2 := []) rfl (ws2 := [(h0, .inr (6, [.ref q5, .ref q17, vI 0, vI 0, .ref q26, vI 0, .ref q32, .ref q43]))] ++ (stL c q5 u9) ++ [(q17, kRf c 4 (va_up (va_up (va_up (fun _ => none) 0 (some q72)) 1 (some q72_2)) 2 (some q72_3))), (q26, kI c 60 (z0F)), (q32, .inr (1, [.ref (u36 1), vI 0, vI 0, vI 0, vI 0, vI 0, vI 0, vI 0, vI 0])), ((u36 1), kI c 60 (z0F)), (q43, .inr (5, [vI (1), vI (22), .ref (u50 1), vI 0])), ((u50 1), kI c 22 (z0F))] ++ (stL c q72 u76) ++ (stL c q72_2 u76_2) ++ (stL c q72_3 u76_3)) rfl (ce2 := 74) rfl (sl2 := 7463) rfl ?_
  refine k_iinc (pc := 80) hX (lv2 := [(1, vI (3)), (0, .ref h0)]) 0 rfl (by decide) rfl dX6_init_80 ?_
  refine k_goto (pc := 83) (tgt := 58) hX dX6_init_83 (by decide) ?_
  refine k_iload_n (pc := 58) hX 0 rfl dX6_init_58 ?_
  refine k_aload_n (pc := 59) hX 1 rfl dX6_init_59 ?_
  refine k_get (pc := 60) hX (ci := 6) (fun _ h => List.mem_cons_of_mem _ (List.mem_append_left _ (List.mem_append_left _ (List.mem_append_left _ (List.mem_append_left _ (List.mem_append_left _ (List.mem_append_right _ h))))))) rfl 0 rfl 1 (by decide) (List.mem_of_getElem? (i := 8) rfl) rfl (v := .ref q17) rfl dX6_init_60 ?_
  refine k_alenR (pc := 63) hX 18 rfl dX6_init_63 ?_
  refine k_at rfl rfl (st2 := [vI (4), vI (3)]) rfl rfl rfl rfl ?_
  refine k_icmp_ge (pc := 64) (tgt := 86) hX ⟨by decide, by decide⟩ ⟨by decide, by decide⟩ dX6_init_64 (by decide) (fun h => absurd h (by decide)) (fun _ => ?_)
  refine k_aload_n (pc := 67) hX 1 rfl dX6_init_67 ?_
  refine k_get (pc := 68) hX (ci := 6) (fun _ h => List.mem_cons_of_mem _ (List.mem_append_left _ (List.mem_append_left _ (List.mem_append_left _ (List.mem_append_left _ (List.mem_append_left _ (List.mem_append_right _ h))))))) rfl 0 rfl 1 (by decide) (List.mem_of_getElem? (i := 8) rfl) rfl (v := .ref q17) rfl dX6_init_68 ?_
  refine k_iload_n (pc := 71) hX 0 rfl dX6_init_71 ?_
  refine k_new (pc := 72) hX (ci := 4) (C := RX4) (T := TX4) (N := 6) (fun _ h => List.mem_cons_of_mem _ (List.mem_append_left _ (List.mem_append_left _ (List.mem_append_left _ (List.mem_append_left _ (List.mem_append_left _ (List.mem_append_left _ (List.mem_append_right _ h)))))))) rfl tyX4 tyX4_ok (List.mem_of_getElem? (i := 4) rfl) (List.mem_of_getElem? (i := 5) rfl) (List.mem_of_getElem? (i := 6) rfl) (fs := [.null, .null, .null, .null, .null, .null]) (fun j hj => by rcases (show j = 0 ∨ j = 1 ∨ j = 2 ∨ j = 3 ∨ j = 4 ∨ j = 5 by omega) with rfl | rfl | rfl | rfl | rfl | rfl <;> rfl) (by show 74 + 1 ≤ 91; omega) (by show 7463 + 6 ≤ 9289; omega) dX6_init_72 (fun q72_4 => ?_)
  refine k_dup (pc := 75) hX rfl dX6_init_75 ?_
  refine k_initN (pc := 76) hX (n := 0) (b := q72_4) (As := []) (st2 := [.ref q72_4, vI (3), .ref q17]) (wr := [(h0, .inr (6, [.ref q5, .ref q17, vI 0, vI 0, .ref q26, vI 0, .ref q32, .ref q43]))] ++ (stL c q5 u9) ++ [(q17, kRf c 4 (va_up (va_up (va_up (fun _ => none) 0 (some q72)) 1 (some q72_2)) 2 (some q72_3))), (q26, kI c 60 (z0F)), (q32, .inr (1, [.ref (u36 1), vI 0, vI 0, vI 0, vI 0, vI 0, vI 0, vI 0, vI 0])), ((u36 1), kI c 60 (z0F)), (q43, .inr (5, [vI (1), vI (22), .ref (u50 1), vI 0])), ((u50 1), kI c 22 (z0F))] ++ (stL c q72 u76) ++ (stL c q72_2 u76_2) ++ (stL c q72_3 u76_3)) (c_X4_init) ggX6_init_X4_init rfl rfl rfl (List.mem_of_getElem? (i := 6) rfl) (List.mem_of_getElem? (i := 0) rfl) (List.mem_of_getElem? (i := 19) rfl) rfl (by decide +kernel) ⟨Nat.le_of_ble_eq_true rfl, Nat.le_of_ble_eq_true rfl⟩ rfl rfl (Nat.le_of_ble_eq_true rfl) (by show 75 + 16 ≤ 91 ∧ 7469 + 1820 ≤ 9289; omega) dX6_init_76 (fun u76_4 => ?_)
  refine k_at rfl rfl (st2 := [.ref q72_4, vI (3), .ref q17]) rfl (ws2 := [(h0, .inr (6, [.ref q5, .ref q17, vI 0, vI 0, .ref q26, vI 0, .ref q32, .ref q43]))] ++ (stL c q5 u9) ++ [(q17, kRf c 4 (va_up (va_up (va_up (fun _ => none) 0 (some q72)) 1 (some q72_2)) 2 (some q72_3))), (q26, kI c 60 (z0F)), (q32, .inr (1, [.ref (u36 1), vI 0, vI 0, vI 0, vI 0, vI 0, vI 0, vI 0, vI 0])), ((u36 1), kI c 60 (z0F)), (q43, .inr (5, [vI (1), vI (22), .ref (u50 1), vI 0])), ((u50 1), kI c 22 (z0F))] ++ (stL c q72 u76) ++ (stL c q72_2 u76_2) ++ (stL c q72_3 u76_3) ++ (stL c q72_4 u76_4)) rfl (ce2 := 91) rfl (sl2 := 9289) rfl ?_
  refine k_aast (pc := 79) hX 18 75 4 rfl rfl rfl (by decide) (by decide) (by decide) dX6_init_79 ?_
  refine k_at rfl rfl (st2 := []) rfl (ws2 := [(h0, .inr (6, [.ref q5, .ref q17, vI 0, vI 0, .ref q26, vI 0, .ref q32, .ref q43]))] ++ (stL c q5 u9) ++ [(q17, kRf c 4 (va_up (va_up (va_up (va_up (fun _ => none) 0 (some q72)) 1 (some q72_2)) 2 (some q72_3)) 3 (some q72_4))), (q26, kI c 60 (z0F)), (q32, .inr (1, [.ref (u36 1), vI 0, vI 0, vI 0, vI 0, vI 0, vI 0, vI 0, vI 0])), ((u36 1), kI c 60 (z0F)), (q43, .inr (5, [vI (1), vI (22), .ref (u50 1), vI 0])), ((u50 1), kI c 22 (z0F))] ++ (stL c q72 u76) ++ (stL c q72_2 u76_2) ++ (stL c q72_3 u76_3) ++ (stL c q72_4 u76_4)) rfl (ce2 := 91) rfl (sl2 := 9289) rfl ?_
  refine k_iinc (pc := 80) hX (lv2 := [(1, vI (4)), (0, .ref h0)]) 0 rfl (by decide) rfl dX6_init_80 ?_
  refine k_goto (pc := 83) (tgt := 58) hX dX6_init_83 (by decide) ?_
  refine k_iload_n (pc := 58) hX 0 rfl dX6_init_58 ?_
  refine k_aload_n (pc := 59) hX 1 rfl dX6_init_59 ?_
  refine k_get (pc := 60) hX (ci := 6) (fun _ h => List.mem_cons_of_mem _ (List.mem_append_left _ (List.mem_append_left _ (List.mem_append_left _ (List.mem_append_left _ (List.mem_append_left _ (List.mem_append_right _ h))))))) rfl 0 rfl 1 (by decide) (List.mem_of_getElem? (i := 8) rfl) rfl (v := .ref q17) rfl dX6_init_60 ?_
  refine k_alenR (pc := 63) hX 18 rfl dX6_init_63 ?_
  refine k_at rfl rfl (st2 := [vI (4), vI (4)]) rfl rfl rfl rfl ?_
  refine k_icmp_ge (pc := 64) (tgt := 86) hX ⟨by decide, by decide⟩ ⟨by decide, by decide⟩ dX6_init_64 (by decide) (fun _ => ?_) (fun h => absurd h (by decide))
  refine k_aload_n (pc := 86) hX 1 rfl dX6_init_86 ?_
  refine k_get (pc := 87) hX (ci := 6) (fun _ h => List.mem_cons_of_mem _ (List.mem_append_left _ (List.mem_append_left _ (List.mem_append_left _ (List.mem_append_left _ (List.mem_append_left _ (List.mem_append_right _ h))))))) rfl 0 rfl 7 (by decide) (List.mem_of_getElem? (i := 18) rfl) rfl (v := .ref q43) rfl dX6_init_87 ?_
  refine k_callI (pc := 90) hX (st2 := []) (q := 22) rfl rfl (k_X5_addRow (rm := (1)) (wd := (22)) (cn := 0) ⟨by decide, by decide⟩ ⟨by decide, by decide⟩ (by decide)) gX6_init_X5_addRow rfl rfl rfl (by decide +kernel) ⟨Nat.le_of_ble_eq_true rfl, Nat.le_of_ble_eq_true rfl⟩ rfl (Nat.le_of_ble_eq_true rfl) (by show 91 + 0 ≤ 91 ∧ 9289 + 0 ≤ 9289; omega) dX6_init_90 ?_
  refine k_at rfl rfl (st2 := [vI (0)]) rfl (ws2 := [(h0, .inr (6, [.ref q5, .ref q17, vI 0, vI 0, .ref q26, vI 0, .ref q32, .ref q43]))] ++ (stL c q5 u9) ++ [(q17, kRf c 4 (va_up (va_up (va_up (va_up (fun _ => none) 0 (some q72)) 1 (some q72_2)) 2 (some q72_3)) 3 (some q72_4))), (q26, kI c 60 (z0F)), (q32, .inr (1, [.ref (u36 1), vI 0, vI 0, vI 0, vI 0, vI 0, vI 0, vI 0, vI 0])), ((u36 1), kI c 60 (z0F)), (q43, .inr (5, [vI (1), vI (22), .ref (u50 1), vI (1)])), ((u50 1), kI c 22 (z0F))] ++ (stL c q72 u76) ++ (stL c q72_2 u76_2) ++ (stL c q72_3 u76_3) ++ (stL c q72_4 u76_4)) rfl (ce2 := 91) rfl (sl2 := 9289) rfl ?_
  refine k_pop (pc := 93) hX rfl dX6_init_93 ?_
  exact k_vret (pc := 94) hX hR (fun i => if i < 7 then ([h0, q17, q26, q32, (u36 1), q43, (u50 1)] : List Nat).getD i 0 else if (i - 7) % 32 = 0 then ([q5, q72, q72_2, q72_3, q72_4] : List Nat).getD ((i - 7) / 32) 0 else (match (i - 7) / 32 with | 0 => u9 | 1 => u76 | 2 => u76_2 | 3 => u76_3 | _ => u76_4) ((i - 7) % 32)) rfl rfl rfl dX6_init_94
