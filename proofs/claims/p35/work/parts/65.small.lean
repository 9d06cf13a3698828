/-! ===== p35: the law's own methods ===== -/
/-- a method that is given the law's script: b the address, L ints f -/
def GMs (w : gW) (l : Launch) (y : MethodName) (ws : List Cond) (rm : Room) (av : List Value) (S : Nat → va_E) (b L : Nat) (f : Nat → Int) (K : Option Value → (Nat → va_E) → Prop) : Prop := Met l y ws rm (va_Pc av (fun U => gPre w S U ∧ va_T .int b L (fun j => .int (iI (f j))) (gA w) U U.heap)) (gQ w K) 0 0 (gA w)
theorem GMs.start {w : gW} {l : Launch} {own n d : String} {ws ws' : List Cond} {fr lo : Nat} {av : List Value} {S : Nat → va_E} {b L : Nat} {f : Nat → Int} {K : Option Value → (Nat → va_E) → Prop} {cc : ByteArray} {maxL : Nat} {ret : Option FieldType}
    (hy : plainName own = true) (hw : ws = Cond.code ⟨own, n, d⟩ cc maxL ret :: ws') (hlen : (lg_sl av).length ≤ maxL)
    (body : ∀ X : gX, gOK w { frames := fr, cells := 0, slots := 0, locals := lo } X cc maxL own ws → gRet w X ret K → scrT w X b L f → gx_l X = l → G w { frames := fr, cells := 0, slots := 0, locals := lo } X maxL 0 (lv_args 0 av) [] S) :
    GMs w l ⟨own, n, d⟩ ws { frames := fr, cells := 0, slots := 0, locals := lo } av S b L f K := by
  refine Met.ofW (cc := cc) (maxL := maxL) (ret := ret) hy hw ?_
  intro p e s m args below meth c s₁ B hml hv
  obtain ⟨rfl, ⟨hz, hP, hK, hD, hT⟩, hsc⟩ := hv
  have hts := atoms_spec (ws := ws) B.pre
  have hown : s.vm.findClass own = some m.cls := findClass_of_methodNamed B.named
  have hl := lv_entry av (n := maxL) hlen
  rw [lg_entry_eq]
  exact body (p, l, e, s, m, av.toArray, below, meth, c, 0, 0, MQ below (gQ w K) av.toArray s 0 0 (gA w)) ⟨B.exec, B.bytes, hml, hown, hts, hK, fun S' => gD_any hD, hz, hT, Nat.le_refl _, Nat.le_refl _⟩ ⟨B.returns, B.notSynchronized, rfl⟩ hsc rfl s.heap [] _ hP va_S.rf hl
theorem GMs.blind {w : gW} {S : Nat → va_E} {av : List Value} {b L : Nat} {f : Nat → Int} : FrameBlind (va_Pc av (fun U => gPre w S U ∧ va_T .int b L (fun j => .int (iI (f j))) (gA w) U U.heap)) := by
  intro a U g mk h
  obtain ⟨h1, ⟨h2, h3, h4, h5, h6⟩, h7⟩ := h
  exact ⟨h1, ⟨h2, h3, va_K.moved (u := U) (U := U.calling g mk a) (Vm.Alike.refl U.vm) h4, h5, gST.same (u := U) rfl h6⟩, va_T.moved (u := U) (U := U.calling g mk a) (Vm.Alike.refl U.vm) h7⟩
section G65
variable {w : gW} {R : Room} {X : gX} {nL pc : Nat} {cc : ByteArray} {own : String} {Ts : List Cond} {lv : List (Nat × Value)} {st : List Value} {S : Nat → va_E}
theorem g_callTs (hX : gOK w R X cc nL own Ts) {index maxL n : Nat} {y : MethodName} {bytes : ByteArray} {ret : Option FieldType} {ws ws' : List Cond} {rm : Room} {st2 As : List Value} {b L : Nat} {f : Nat → Int} {K : Value → (Nat → va_E) → Prop} (hsc : scrT w X b L f) (hM : GMs w (gx_l X) y ws rm As S b L f (g1 K)) (hT : GoodIn Ts (va_wsS own index y ws)) (hw : ws = Cond.code y bytes maxL ret :: ws') (hrc : rm.cells = 0) (hrs : rm.slots = 0)
    (hd : y.cls ≠ "java/lang/invoke/MethodHandle" ∧ y.cls ≠ "java/lang/invoke/VarHandle" ∧ (parseMethodDescriptor y.desc).map (fun d => d.parameters.length) = some n) (hR : rm.frames + 1 ≤ R.frames ∧ 8 + (maxL + 11) + rm.locals ≤ R.locals) (hn : As.length = n) (hst : st = As.reverse ++ st2) (hsum : (st2.map fun v => v.category).sum ≤ 8) (hdg : decode cc pc = .ok (.invokestatic index, 3))
    (k : ∀ x S', K x S' → G w R X nL (pc + 3) lv (x :: st2) S') : G w R X nL pc lv st S := by
  intro H locs ls hP hS hl
  refine g_run hX (st2 := st2) (a := As.toArray) hS hl (va_runS (As := As) (rest := st2) ⟨hX.1, hX.2.1, hX.2.2.1, hX.2.2.2.1, hX.2.2.2.2.1⟩ hM (va_cwS n hX.2.2.2.2.1 hT hw hrc hrs hd hR) ⟨GMs.blind, fun U hU hW => ⟨rfl, gPre_at hX hP hS hU hW, by rw [hU]; exact (va_T.moved hW.alike hsc).kept hS.2.1⟩⟩ rfl hn hl.1 hst (lv_room hsum) hdg ⟨hX.2.2.2.2.2.2.2.2.2.1, hX.2.2.2.2.2.2.2.2.2.2⟩) (fun v S' h => by obtain ⟨x, rfl, h2⟩ := h; exact k x S' h2)
end G65
set_option maxHeartbeats 4000000 in
set_option maxRecDepth 100000 in
theorem c_L_cell {w : gW} {l : Launch} {S : Nat → va_E} {b L : Nat} {f : Nat → Int} (hL : L ≤ 260) (hf : ∀ j, inI (f j)) {i : Int} (i0 : 0 ≤ i) (i1 : i ≤ 1000) : GMs w l yL_cell wsL_cell { frames := 0, cells := 0, slots := 0, locals := 0 } [.ref b, vI i] S b L f (g1 (fun v S2 => ∃ x, v = vI x ∧ inI x ∧ S2 = S)) := by
  refine GMs.start (own := RL) (n := "cell") (d := "([II)I") (by decide) rfl (Nat.le_of_ble_eq_true rfl) ?_
  intro X hX hR hSc hXl
  subst hXl
  refine g_at rfl (lv2 := [(0, .ref b), (1, vI i)]) rfl rfl rfl ?_
  refine g_iload_n (pc := 0) hX 1 rfl dL_cell_0 ?_
  refine g_aload_n (pc := 1) hX 0 rfl dL_cell_1 ?_
  refine g_sclen (pc := 2) hX hSc dL_cell_2 ?_
  refine g_icmp_ge (pc := 3) (tgt := 12) hX ⟨by omega, by omega⟩ ⟨by omega, by omega⟩ dL_cell_3 (by decide) (fun c => ?_) (fun c => ?_)
  · refine g_ldc (pc := 12) hX (z := 763049417) (List.mem_of_getElem? (i := 1) rfl) (by decide +kernel) dL_cell_12 ?_
    refine g_iload_n (pc := 14) hX 1 rfl dL_cell_14 ?_
    refine g_iconst (pc := 15) hX dL_cell_15 ?_
    refine g_iadd (pc := 16) hX dL_cell_16 ?_
    refine g_imul (pc := 17) hX dL_cell_17 ?_
    refine g_iret (pc := 18) hX hR dL_cell_18 ?_
    obtain ⟨y, e, hy⟩ := iI_ex (iI (763049417 * (i + 3)))
    exact ⟨y, congrArg Value.int e, hy, rfl⟩
  · refine g_aload_n (pc := 6) hX 0 rfl dL_cell_6 ?_
    refine g_iload_n (pc := 7) hX 1 rfl dL_cell_7 ?_
    refine g_scald (pc := 8) hX hSc i0 c (by omega) dL_cell_8 ?_
    refine g_goto (pc := 9) (tgt := 18) hX dL_cell_9 (by decide) ?_
    refine g_iret (pc := 18) hX hR dL_cell_18 ?_
    exact ⟨_, rfl, hf _, rfl⟩
set_option maxHeartbeats 4000000 in
set_option maxRecDepth 100000 in
theorem c_L_size {w : gW} {l : Launch} {S : Nat → va_E}  {x : Int} (h0 : -2147483648 < x) (h1 : x ≤ 2147483647) :
    GM1 w l yL_size wsL_size { frames := 0, cells := 0, slots := 0, locals := 0 } [vI (x)] S
      (fun v S' => v = vI (sizeZ x) ∧ S' = S) := by
  refine GM.start (own := RL) (n := "size") (d := "(I)I") (by decide) rfl (Nat.le_of_ble_eq_true rfl) ?_
  intro X hX hR hXl
  subst hXl
  refine g_at rfl (lv2 := [(0, vI (x))]) rfl rfl rfl ?_
  refine g_iload_n (pc := 0) hX 0 rfl dL_size_0 ?_
  refine g_if_ge (pc := 1) (tgt := 9) hX (by first | assumption | exact inI_mk (by omega) (by omega)) dL_size_1 (by decide) (fun c_1 => ?_) (fun c_1 => ?_)
  · skip
    refine g_iload_n (pc := 9) hX 0 rfl dL_size_9 ?_
    refine g_iret (pc := 10) hX hR dL_size_10 ?_
    exact ⟨vI_c (by unfold sizeZ; rw [if_neg (by omega)]), rfl⟩
  · skip
    refine g_iload_n (pc := 4) hX 0 rfl dL_size_4 ?_
    refine g_ineg (pc := 5) hX dL_size_5 ?_
    refine g_goto (pc := 6) (tgt := 10) hX dL_size_6 (by decide) ?_
    refine g_iret (pc := 10) hX hR dL_size_10 ?_
    exact ⟨vI_c (by unfold sizeZ; rw [if_pos (by omega)]), rfl⟩

set_option maxHeartbeats 4000000 in
set_option maxRecDepth 100000 in
theorem c_L_begun {w : gW} {l : Launch} {S : Nat → va_E}  {x : Int} (h0 : 0 ≤ x) (h1 : x ≤ 100000) :
    GM1 w l yL_begun wsL_begun { frames := 0, cells := 0, slots := 0, locals := 0 } [vI (x)] S
      (fun v S' => v = vI ((x + 9) / 10) ∧ S' = S) := by
  refine GM.start (own := RL) (n := "begun") (d := "(I)I") (by decide) rfl (Nat.le_of_ble_eq_true rfl) ?_
  intro X hX hR hXl
  subst hXl
  refine g_at rfl (lv2 := [(0, vI (x))]) rfl rfl rfl ?_
  refine g_iload_n (pc := 0) hX 0 rfl dL_begun_0 ?_
  refine g_bipush (pc := 1) hX (by decide) dL_begun_1 ?_
  refine g_iadd (pc := 3) hX dL_begun_3 ?_
  refine g_bipush (pc := 4) hX (by decide) dL_begun_4 ?_
  refine g_idiv (pc := 6) hX (by first | assumption | exact inI_mk (by omega) (by omega)) (by first | assumption | exact inI_mk (by omega) (by omega)) (by omega) dL_begun_6 ?_
  refine g_iret (pc := 7) hX hR dL_begun_7 ?_
  exact ⟨vI_c (Int.tdiv_eq_ediv_of_nonneg (by omega)), rfl⟩

set_option maxHeartbeats 4000000 in
set_option maxRecDepth 100000 in
theorem c_L_up {w : gW} {l : Launch} {S : Nat → va_E}  {x m : Int} (h0 : 1 ≤ m) (h1 : m ≤ 2147483647) :
    GM1 w l yL_up wsL_up { frames := 0, cells := 0, slots := 0, locals := 0 } [vI (x), vI (m)] S
      (fun v S' => v = vI (upZ x m) ∧ S' = S) := by
  refine GM.start (own := RL) (n := "up") (d := "(II)I") (by decide) rfl (Nat.le_of_ble_eq_true rfl) ?_
  intro X hX hR hXl
  subst hXl
  refine g_at rfl (lv2 := [(0, vI (x)), (1, vI (m))]) rfl rfl rfl ?_
  refine g_iload_n (pc := 0) hX 0 rfl dL_up_0 ?_
  refine g_ldc (pc := 1) hX (z := 2147483647) (List.mem_of_getElem? (i := 1) rfl) (by decide +kernel) dL_up_1 ?_
  refine g_iandZ (pc := 3) hX dL_up_3 ?_
  refine g_iload_n (pc := 4) hX 1 rfl dL_up_4 ?_
  refine g_irem (pc := 5) hX (andZ_in _ _) (by first | assumption | exact inI_mk (by omega) (by omega)) (by omega) dL_up_5 ?_
  refine g_iret (pc := 6) hX hR dL_up_6 ?_
  exact ⟨rfl, rfl⟩

