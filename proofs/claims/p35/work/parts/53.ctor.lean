/-! ===== constructors: a world that grows, as a list of cells ===== -/
abbrev kTy (c : Nat → ClassId) : List (ClassId × FieldType) := [(c 0, .int), (c 0, .int), (c 0, .int), (c 3, .object "ParcelDesk$State")]
abbrev kI (c : Nat → ClassId) (n : Nat) (f : Int → Int) : va_E := .inl (c 0, n, .inl (fun j : Nat => iI (f j)))
abbrev kRf (c : Nat → ClassId) (n : Nat) (f : Nat → Option Nat) : va_E := .inl (c 3, n, .inr (.inr (.inr (.inr f))))
def z0F : Int → Int := fun _ => 0
def kPre (D : va_G) (c : Nat → ClassId) (ws : va_W) (sz : Nat) (U : State) : Prop := U.heap.size = sz ∧ va_P D vwCl ws U.heap ∧ va_K D vwCl (kTy c) U ∧ va_D (fun _ => True) ws ∧ gNest U ∧ va_AO "ParcelDesk$State" U
/-- a constructor's contract: from the cells pre (its object among them) to the cells K u, u the addresses; mc new cells of ms slots -/
def kM (D : va_G) (c : Nat → ClassId) (l : Launch) (y : MethodName) (wsy : List Cond) (rm : Room) (av : List Value) (pre : va_W) (K : (Nat → Nat) → va_W) (mc ms : Nat) : Prop :=
  ∀ sz : Nat, Met l y wsy rm (va_Pc av (kPre D c pre sz)) (va_Qv (fun _ : Nat → Nat => True) (fun u t => va_P D vwCl (K u) t.heap ∧ va_D (va_A pre sz) (K u)) (va_A pre sz)) mc ms (va_A pre sz)
def kG (D : va_G) (R : Room) (X : gX) (A : Nat → Prop) (nL pc : Nat) (lv : List (Nat × Value)) (st : List Value) (ws : va_W) (ce sl : Nat) : Prop :=
  ∀ (H : Heap) (locs : List Loc) (ls : Array Slot), va_P D vwCl ws H → va_D A ws → va_S A (gx_s X).heap H locs → lv_has ls nL lv →
    W (gx_p X) (gx_l X) (gx_e X) R (gx_s X) (gx_m X) (gx_a X) (gx_b X) (gx_h X) (gx_c X) H locs ce sl (gx_Q X) (F0 (gx_m X) pc ls st)
def kOK (D : va_G) (c : Nat → ClassId) (R : Room) (X : gX) (A : Nat → Prop) (cc : ByteArray) (nL : Nat) (own : String) (Ts : List Cond) : Prop :=
  (gx_p X).tables.exec = Jvm.exec ∧ (gx_c X).code = cc ∧ (gx_c X).maxLocals = nL ∧ (gx_s X).vm.findClass own = some (gx_m X).cls ∧ (∀ q ∈ Ts, q.before (gx_a X) (gx_s X) = true) ∧
  va_K D vwCl (kTy c) (gx_s X) ∧ (∀ q : Nat, (gx_s X).heap.size ≤ q → A q) ∧ gNest (gx_s X) ∧ va_AO "ParcelDesk$State" (gx_s X)
theorem kPre.blind {D : va_G} {c : Nat → ClassId} {ws : va_W} {sz : Nat} {av : List Value} : FrameBlind (va_Pc av (kPre D c ws sz)) := by
  intro a U g mk h
  obtain ⟨h1, h2, h3, h4, h5, h6⟩ := h
  exact ⟨h1, h2, h3, va_K.moved (u := U) (U := U.calling g mk a) (Vm.Alike.refl U.vm) h4, h5, gNest.same (u := U) rfl h6.1, va_AO.moved (u := U) (U := U.calling g mk a) (Vm.Alike.refl U.vm) h6.2⟩
def kRet (D : va_G) (c : Nat → ClassId) (R : Room) (X : gX) (A : Nat → Prop) (K : (Nat → Nat) → va_W) (mc ms : Nat) : Prop :=
  (gx_h X).sig.returnType = none ∧ (gx_h X).locks = false ∧ gx_Q X = MQ (gx_b X) (va_Qv (fun _ : Nat → Nat => True) (fun u t => va_P D vwCl (K u) t.heap ∧ va_D A (K u)) A) (gx_a X) (gx_s X) mc ms A
theorem kM.start {D : va_G} {c : Nat → ClassId} {l : Launch} {own n d : String} {wsy ws' : List Cond} {fr lo mc ms : Nat} {av : List Value} {pre : va_W} {K : (Nat → Nat) → va_W} {cc : ByteArray} {maxL : Nat}
    (hy : plainName own = true) (hn : n = "<init>") (hw : wsy = Cond.code ⟨own, n, d⟩ cc maxL none :: ws') (hlen : (lg_sl av).length ≤ maxL)
    (body : ∀ (X : gX) (A : Nat → Prop), kOK D c { frames := fr, cells := mc, slots := ms, locals := lo } X A cc maxL own wsy → (gx_h X).name = "<init>" → kRet D c { frames := fr, cells := mc, slots := ms, locals := lo } X A K mc ms → va_D A pre → gx_l X = l → kG D { frames := fr, cells := mc, slots := ms, locals := lo } X A maxL 0 (lv_args 0 av) [] pre 0 0) :
    kM D c l ⟨own, n, d⟩ wsy { frames := fr, cells := mc, slots := ms, locals := lo } av pre K mc ms := by
  intro sz
  refine Met.ofW (cc := cc) (maxL := maxL) (ret := none) hy hw ?_
  intro p e s m args below meth c1 s₁ B hml hv
  obtain ⟨rfl, hz, hP, hK, hD, hN⟩ := hv
  have hts := atoms_spec (ws := wsy) B.pre
  have hown : s.vm.findClass own = some m.cls := findClass_of_methodNamed B.named
  have hl := lv_entry av (n := maxL) hlen
  have hin : meth.name = n := (name_of_methodNamed B.named B.method).1
  subst hz
  rw [lg_entry_eq]
  exact body (p, l, e, s, m, av.toArray, below, meth, c1, 0, 0, MQ below (va_Qv (fun _ : Nat → Nat => True) (fun u t => va_P D vwCl (K u) t.heap ∧ va_D (va_A pre s.heap.size) (K u)) (va_A pre s.heap.size)) av.toArray s mc ms (va_A pre s.heap.size)) (va_A pre s.heap.size)
    ⟨B.exec, B.bytes, hml, hown, hts, hK, fun q h => Or.inr h, hN⟩ (hin.trans hn) ⟨B.returns, B.notSynchronized, rfl⟩ hD.self rfl s.heap [] _ hP hD.self va_S.rf hl
theorem k_apL {ws : va_W} {x : Nat × va_E} {k : Nat} {q : Nat × va_E} (h : ws[k]? = some q) : (ws ++ [x])[k]? = some q := by
  rw [List.getElem?_append_left (List.getElem?_eq_some_iff.mp h).1]
  exact h
theorem k_apR {ws : va_W} {x : Nat × va_E} {k : Nat} {q : Nat × va_E} (h : [x][k]? = some q) : (ws ++ [x])[ws.length + k]? = some q := by
  rw [List.getElem?_append_right (Nat.le_add_right _ _), Nat.add_sub_cancel_left]
  exact h
theorem k_P1 {D : va_G} {wr : va_W} {x : Nat × va_E} {H : Heap} (hP : va_P D vwCl (wr ++ [x]) H) : va_P D vwCl [x] H := fun _ _ hk => hP _ _ (k_apR hk)
theorem k_D1 {A : Nat → Prop} {wr : va_W} {x : Nat × va_E} (hD : va_D A (wr ++ [x])) : va_D A [x] := ⟨fun i j p q hp hq _ => by have h1 := (List.getElem?_eq_some_iff.mp hp).1; have h2 := (List.getElem?_eq_some_iff.mp hq).1; simp only [List.length_singleton] at h1 h2; omega, fun _ _ hk => hD.2 _ _ (k_apR hk)⟩
theorem k_F1 {A0 : Nat → Prop} {wr : va_W} {b : Nat} {e : va_E} {H0 H : Heap} {locs : List Loc} (hD : va_D A0 (wr ++ [(b, e)])) (hS : va_S A0 H0 H locs) (hA : ∀ q, H0.size ≤ q → A0 q) : ∀ q, va_A [(b, e)] H.size q → A0 q := by
  intro q h
  rcases h with ⟨k2, e2, h⟩ | h
  · exact (k_D1 hD).2 k2 (q, e2) h
  · exact hA q (Nat.le_trans hS.1 h)
theorem k_joinL {A0 : Nat → Prop} {D : va_G} {wr w1 : va_W} {b : Nat} {e : va_E} {H H1 : Heap} (hP : va_P D vwCl (wr ++ [(b, e)]) H) (hD : va_D A0 (wr ++ [(b, e)])) (hk : ∀ q : Nat, q < H.size → ¬ va_A [(b, e)] H.size q → H1[q]? = H[q]?) (hF : ∀ q, va_A [(b, e)] H.size q → A0 q) (hP1 : va_P D vwCl w1 H1) (hD1 : va_D (va_A [(b, e)] H.size) w1) : va_P D vwCl (wr ++ w1) H1 ∧ va_D A0 (wr ++ w1) := by
  have apart : ∀ (k : Nat) (q : Nat × va_E), wr[k]? = some q → q.1 < H.size ∧ ¬ va_A [(b, e)] H.size q.1 := by
    intro k q hq
    refine ⟨(hP k q (k_apL hq)).lt, fun h => ?_⟩
    rcases h with ⟨k2, e2, h⟩ | h
    · have h1 : k2 < 1 := (List.getElem?_eq_some_iff.mp h).1
      have h2 := hD.1 k (wr.length + k2) q (q.1, e2) (k_apL hq) (k_apR h) rfl
      have h3 := (List.getElem?_eq_some_iff.mp hq).1
      omega
    · have := (hP k q (k_apL hq)).lt
      omega
  have hPw : va_P D vwCl wr H := fun k q hq => hP k q (k_apL hq)
  have hDw : va_D A0 wr := ⟨fun i j p q hp hq e => hD.1 i j p q (k_apL hp) (k_apL hq) e, fun k q hk => hD.2 k q (k_apL hk)⟩
  have hD2 : va_D A0 w1 := ⟨hD1.1, fun k q hk => hF _ (hD1.2 k q hk)⟩
  exact ⟨(hPw.kept (fun k q hq => hk q.1 (apart k q hq).1 (apart k q hq).2)).app hP1, hDw.app hD2 (fun i j p q hp hq h => (apart i p hp).2 (by rw [h]; exact hD1.2 j q hq))⟩
section KR
variable {D : va_G} {c : Nat → ClassId} {R : Room} {X : gX} {A : Nat → Prop} {nL pc : Nat} {cc : ByteArray} {own : String} {Ts : List Cond} {lv : List (Nat × Value)} {st : List Value} {ws : va_W} {ce sl : Nat}
theorem k_at {pc2 : Nat} {lv2 : List (Nat × Value)} {st2 : List Value} {ws2 : va_W} {ce2 sl2 : Nat} (h1 : pc = pc2) (h2 : lv = lv2) (h3 : st = st2) (h4 : ws = ws2) (h5 : ce = ce2) (h6 : sl = sl2) (k : kG D R X A nL pc2 lv2 st2 ws2 ce2 sl2) : kG D R X A nL pc lv st ws ce sl := by subst h1; subst h2; subst h3; subst h4; subst h5; subst h6; exact k
theorem k_iconst (hX : kOK D c R X A cc nL own Ts) {n : Int} (hdg : decode cc pc = .ok (.iconst n, 1)) (k : kG D R X A nL (pc + 1) lv (vI n :: st) ws ce sl) : kG D R X A nL pc lv st ws ce sl := by
  intro H locs ls hP hD hS hl
  exact lv_iconst hX.1 hX.2.1 hdg rfl (k H locs ls hP hD hS hl)
theorem k_bipush (hX : kOK D c R X A cc nL own Ts) {n : Int} (hn : -128 ≤ n ∧ n ≤ 127) (hdg : decode cc pc = .ok (.bipush n, 2)) (k : kG D R X A nL (pc + 2) lv (vI n :: st) ws ce sl) : kG D R X A nL pc lv st ws ce sl := by
  intro H locs ls hP hD hS hl
  exact lv_bipush hX.1 hX.2.1 hdg (iI_b hn) (k H locs ls hP hD hS hl)
theorem k_sipush (hX : kOK D c R X A cc nL own Ts) {n : Int} (hn : -32768 ≤ n ∧ n ≤ 32767) (hdg : decode cc pc = .ok (.sipush n, 3)) (k : kG D R X A nL (pc + 3) lv (vI n :: st) ws ce sl) : kG D R X A nL pc lv st ws ce sl := by
  intro H locs ls hP hD hS hl
  exact lv_sipush hX.1 hX.2.1 hdg (iI_s hn) (k H locs ls hP hD hS hl)
theorem k_ldc2 (hX : kOK D c R X A cc nL own Ts) {index : Nat} {v : Int64} {z : Int} (hm : Cond.constantLong own index v ∈ Ts) (hz : v = lI z) (hdg : decode cc pc = .ok (.ldc2_w index, 3)) (k : kG D R X A nL (pc + 3) lv (vL z :: st) ws ce sl) : kG D R X A nL pc lv st ws ce sl := by
  intro H locs ls hP hD hS hl
  subst hz
  exact lv_ldc2 hX.1 hX.2.1 hX.2.2.2.1 (hX.2.2.2.2.1 _ hm) hdg (k H locs ls hP hD hS hl)
theorem k_aload_n (hX : kOK D c R X A cc nL own Ts) {q : Fin 4} {x : Nat} (j : Nat) (hj : lv[j]? = some ((q : Nat), .ref x)) (hdg : decode cc pc = .ok (.aload_n q, 1)) (k : kG D R X A nL (pc + 1) lv (.ref x :: st) ws ce sl) : kG D R X A nL pc lv st ws ce sl := by
  intro H locs ls hP hD hS hl
  exact lv_aload_n hX.1 hX.2.1 hdg rfl (lv_at hl j hj) (k H locs ls hP hD hS hl)
theorem k_iload_n (hX : kOK D c R X A cc nL own Ts) {q : Fin 4} {x : Int32} (j : Nat) (hj : lv[j]? = some ((q : Nat), .int x)) (hdg : decode cc pc = .ok (.iload_n q, 1)) (k : kG D R X A nL (pc + 1) lv (.int x :: st) ws ce sl) : kG D R X A nL pc lv st ws ce sl := by
  intro H locs ls hP hD hS hl
  exact lv_iload_n hX.1 hX.2.1 hdg rfl (lv_at hl j hj) (k H locs ls hP hD hS hl)
theorem k_istore_n (hX : kOK D c R X A cc nL own Ts) {q : Fin 4} {i : Nat} {x : Int32} {lv2 : List (Nat × Value)} (hi : (q : Nat) = i) (hn : i < nL) (hl2 : (i, Value.int x) :: lv.filter (fun q => !(q.1 == i) && !(q.1 + 1 == i && q.2.category == 2)) = lv2) (hdg : decode cc pc = .ok (.istore_n q, 1)) (k : kG D R X A nL (pc + 1) lv2 st ws ce sl) : kG D R X A nL pc lv (.int x :: st) ws ce sl := by
  intro H locs ls hP hD hS hl
  exact lv_istore_n hX.1 hX.2.1 hdg hi hl hn hl2 (fun ls2 hl3 => k H locs ls2 hP hD hS hl3)
theorem k_astore_n (hX : kOK D c R X A cc nL own Ts) {q : Fin 4} {i : Nat} {x : Nat} {lv2 : List (Nat × Value)} (hi : (q : Nat) = i) (hn : i < nL) (hl2 : (i, Value.ref x) :: lv.filter (fun q => !(q.1 == i) && !(q.1 + 1 == i && q.2.category == 2)) = lv2) (hdg : decode cc pc = .ok (.astore_n q, 1)) (k : kG D R X A nL (pc + 1) lv2 st ws ce sl) : kG D R X A nL pc lv (.ref x :: st) ws ce sl := by
  intro H locs ls hP hD hS hl
  exact lv_astore_n hX.1 hX.2.1 hdg hi hl hn hl2 (fun ls2 hl3 => k H locs ls2 hP hD hS hl3)
theorem k_dup (hX : kOK D c R X A cc nL own Ts) {x : Value} (hc : x.category = 1) (hdg : decode cc pc = .ok (.dup, 1)) (k : kG D R X A nL (pc + 1) lv (x :: x :: st) ws ce sl) : kG D R X A nL pc lv (x :: st) ws ce sl := by
  intro H locs ls hP hD hS hl
  exact lv_dup hX.1 hX.2.1 hdg hc (k H locs ls hP hD hS hl)
theorem k_pop (hX : kOK D c R X A cc nL own Ts) {x : Value} (hc : x.category = 1) (hdg : decode cc pc = .ok (.pop, 1)) (k : kG D R X A nL (pc + 1) lv st ws ce sl) : kG D R X A nL pc lv (x :: st) ws ce sl := by
  intro H locs ls hP hD hS hl
  exact lv_pop hX.1 hX.2.1 hdg hc (k H locs ls hP hD hS hl)
theorem k_iadd (hX : kOK D c R X A cc nL own Ts) {a b : Int} (hdg : decode cc pc = .ok (.iadd, 1)) (k : kG D R X A nL (pc + 1) lv (vI (a + b) :: st) ws ce sl) : kG D R X A nL pc lv (vI b :: vI a :: st) ws ce sl := by
  intro H locs ls hP hD hS hl
  refine lv_iadd hX.1 hX.2.1 hdg ?_
  rw [iI_add]
  exact k H locs ls hP hD hS hl
theorem k_imul (hX : kOK D c R X A cc nL own Ts) {a b : Int} (hdg : decode cc pc = .ok (.imul, 1)) (k : kG D R X A nL (pc + 1) lv (vI (a * b) :: st) ws ce sl) : kG D R X A nL pc lv (vI b :: vI a :: st) ws ce sl := by
  intro H locs ls hP hD hS hl
  refine lv_imul hX.1 hX.2.1 hdg ?_
  rw [iI_mul]
  exact k H locs ls hP hD hS hl
theorem k_objInit (hX : kOK D c R X A cc nL own Ts) {index x : Nat} (hm1 : Cond.methodLink own index objectInit ∈ Ts) (hm2 : Cond.instanceMethod objectInit ∈ Ts) (hm3 : Cond.code objectInit ⟨#[0xb1]⟩ 1 none ∈ Ts) (hfr : 1 ≤ R.frames) (hlo : (st.map fun v => v.category).sum + 12 ≤ R.locals) (hdg : decode cc pc = .ok (.invokespecial index, 3))
    (k : kG D R X A nL (pc + 3) lv st ws ce sl) : kG D R X A nL pc lv (.ref x :: st) ws ce sl := by
  intro H locs ls hP hD hS hl
  refine W.objInit hX.1 hX.2.1 hX.2.2.2.1 (hX.2.2.2.2.1 _ hm1) (hX.2.2.2.2.1 _ hm2) (hX.2.2.2.2.1 _ hm3) rfl (hl.1.trans hX.2.2.1.symm) rfl hdg hfr (show 2 * 0 + _ + 12 ≤ R.locals by omega) ?_
  exact W.eq (g2 := F0 (gx_m X) (pc + 3) ls st) rfl (k H locs ls hP hD hS hl)
theorem k_get (hX : kOK D c R X A cc nL own Ts) {ref C : String} {T : u_T} {N ci index a : Nat} (hin : ∀ q ∈ u_ws C T N, q ∈ Ts) (hc : vwCl[ci]? = some (C, T, N)) (q : Nat) {fs : List Value} (he : ws[q]? = some (a, .inr (ci, fs))) (j : Nat) (hj : j < N) (hm : Cond.fieldLink own index ref (T j).2.1 (T j).2.2.1 ∈ Ts) (href : ref = (T j).1) {v : Value} (hv : fs[j]? = some v) (hdg : decode cc pc = .ok (.getfield index, 3))
    (k : kG D R X A nL (pc + 3) lv (v :: st) ws ce sl) : kG D R X A nL pc lv (.ref a :: st) ws ce sl := by
  intro H locs ls hP hD hS hl
  refine va_get (D := D) (ci := ci) (v := v) (C := C) (T := T) (N := N) hX.1 hX.2.1 hX.2.2.2.2.1 hin hX.2.2.2.1 hX.2.2.2.2.2.1 hP q he hc j hj (hX.2.2.2.2.1 _ hm) (fun _ h9 => by rw [href]; exact h9) hv hdg ?_
  exact k H locs ls hP hD hS hl
theorem k_put (hX : kOK D c R X A cc nL own Ts) {ref C : String} {T : u_T} {N ci index a : Nat} (hin : ∀ q ∈ u_ws C T N, q ∈ Ts) (hc : vwCl[ci]? = some (C, T, N)) (ty0 : Nat → FieldType) (hty : ∀ k, k < N → parseFieldDescriptor (T k).2.2.1 = some (ty0 k)) (hnm : ∀ a, a < N → ∀ b, b < N → a ≠ b → (T a).2.1 ≠ (T b).2.1) (q : Nat) {fs : List Value} (he : ws[q]? = some (a, .inr (ci, fs))) (j : Nat) (hj : j < N) (hm : Cond.fieldLink own index ref (T j).2.1 (T j).2.2.1 ∈ Ts) (href : ref = (T j).1) (hfin : (T j).2.2.2 = false) {v : Value} (hd : parseFieldDescriptor (T j).2.2.1 = some (ty0 j)) (hn : narrow (ty0 j) v = v) (hfit : fits (ty0 j) v = true) (hlen : j < fs.length) (hdg : decode cc pc = .ok (.putfield index, 3))
    (k : kG D R X A nL (pc + 3) lv st (ws.set q (a, .inr (ci, fs.set j v))) ce sl) : kG D R X A nL pc lv (v :: .ref a :: st) ws ce sl := by
  intro H locs ls hP hD hS hl
  exact va_put (D := D) (ci := ci) (v := v) (C := C) (T := T) (N := N) hX.1 hX.2.1 hX.2.2.2.2.1 hin ty0 hty hnm hX.2.2.2.1 hX.2.2.2.2.2.1 hP hD hS q he hc j hj (hX.2.2.2.2.1 _ hm) (fun _ h9 => by rw [href]; exact h9) hfin hd hn hfit hlen hdg (fun H1 locs1 hP1 hD1 hS1 => k H1 locs1 ls hP1 hD1 hS1 hl)
theorem k_putF (hX : kOK D c R X A cc nL own Ts) (hin2 : (gx_h X).name = "<init>") {ref C : String} {T : u_T} {N ci index a : Nat} (hin : ∀ q ∈ u_ws C T N, q ∈ Ts) (hc : vwCl[ci]? = some (C, T, N)) (ty0 : Nat → FieldType) (hty : ∀ k, k < N → parseFieldDescriptor (T k).2.2.1 = some (ty0 k)) (hnm : ∀ a, a < N → ∀ b, b < N → a ≠ b → (T a).2.1 ≠ (T b).2.1) (q : Nat) {fs : List Value} (he : ws[q]? = some (a, .inr (ci, fs))) (j : Nat) (hj : j < N) (hm : Cond.fieldLink own index ref (T j).2.1 (T j).2.2.1 ∈ Ts) (href : ref = (T j).1) (hfin : (T j).2.2.2 = true) (hdecl : (T j).1 = own) {v : Value} (hd : parseFieldDescriptor (T j).2.2.1 = some (ty0 j)) (hn : narrow (ty0 j) v = v) (hfit : fits (ty0 j) v = true) (hlen : j < fs.length) (hdg : decode cc pc = .ok (.putfield index, 3))
    (k : kG D R X A nL (pc + 3) lv st (ws.set q (a, .inr (ci, fs.set j v))) ce sl) : kG D R X A nL pc lv (v :: .ref a :: st) ws ce sl := by
  intro H locs ls hP hD hS hl
  exact va_putF (D := D) (ci := ci) (v := v) (C := C) (T := T) (N := N) hX.1 hX.2.1 hX.2.2.2.2.1 hin ty0 hty hnm hX.2.2.2.1 hX.2.2.2.2.2.1 hP hD hS q he hc j hj (hX.2.2.2.2.1 _ hm) (fun _ h9 => by rw [href]; exact h9) hfin hin2 hdecl hd hn hfit hlen hdg (fun H1 locs1 hP1 hD1 hS1 => k H1 locs1 ls hP1 hD1 hS1 hl)
theorem k_iast (hX : kOK D c R X A cc nL own Ts) (q : Nat) {n a : Nat} {f : Int → Int} (he : ws[q]? = some (a, kI c n f)) {i x : Int} (h0 : 0 ≤ i) (h1 : i < n) (hn : n ≤ 2147483647) (hdg : decode cc pc = .ok (.iastore, 1))
    (k : kG D R X A nL (pc + 1) lv st (ws.set q (a, kI c n (updZ f i x))) ce sl) : kG D R X A nL pc lv (vI x :: vI i :: .ref a :: st) ws ce sl := by
  intro H locs ls hP hD hS hl
  refine va_iast (D := D) (f := fun j : Nat => iI (f j)) hX.1 hX.2.1 hX.2.2.2.2.2.1 hP hD hS q 0 he rfl (iI_vpin h0 h1 hn) hdg (fun H1 locs1 hP1 hD1 hS1 => ?_)
  rw [iI_updZ h0 (by omega)] at hP1 hD1
  exact k H1 locs1 ls hP1 hD1 hS1 hl
theorem kTy_same {tys : List (ClassId × FieldType)} {t : Nat} {cA cB : ClassId} {ty : FieldType} {U : State} (hK : va_K D vwCl tys U) (ht : tys[t]? = some (cB, ty)) (hK2 : va_K D vwCl (tys ++ [(cA, ty)]) U) (hp : ∀ C, ty ≠ .object C) : cA = cB := by
  have h1 := (hK.2 t _ ht).2
  have h2 := (hK2.2 tys.length (cA, ty) (by rw [List.getElem?_append_right (Nat.le_refl _), Nat.sub_self]; rfl)).2
  cases ty with
  | object C => exact absurd rfl (hp C)
  | _ => exact Option.some.inj (h2.symm.trans h1)
theorem k_newi (hX : kOK D c R X A cc nL own Ts) (hm : Cond.arrayClass (newarray.typeOf .int) ∈ Ts) {n : Int} {N : Nat} (hn : 0 ≤ n ∧ n ≤ 100000) (hN : n.toNat = N) (hce : ce + 1 ≤ R.cells) (hsl : sl + N ≤ R.slots) (hdg : decode cc pc = .ok (.newarray .int, 2))
    (k : ∀ q : Nat, kG D R X A nL (pc + 2) lv (.ref q :: st) (ws ++ [(q, kI c N z0F)]) (ce + 1) (sl + N)) : kG D R X A nL pc lv (vI n :: st) ws ce sl := by
  intro H locs ls hP hD hS hl
  have hi : inI n := ⟨by omega, by omega⟩
  refine va_newa (atype := .int) (a0 := (N, .inl (fun j : Nat => iI (z0F j)))) hX.1 hX.2.1 (hX.2.2.2.2.1 _ hm) rfl hX.2.2.2.2.2.1 hP hD hS hX.2.2.2.2.2.2.1 (fun _ => rfl) (by rw [← iI_0, iI_lt hi inI_0]; omega) (by rw [iI_nat hi]; exact hN) (by show N * 4 ≤ 536870912; omega) hce hsl hdg (fun q cA H1 hK1 hP1 hD1 hS1 => ?_)
  have hcA : cA = c 0 := kTy_same (t := 0) hX.2.2.2.2.2.1 rfl hK1 (fun _ h => by cases h)
  subst hcA
  exact k q H1 locs ls hP1 hD1 hS1 hl
theorem k_new (hX : kOK D c R X A cc nL own Ts) {C : String} {T : u_T} {N ci index : Nat} (hin : ∀ q ∈ u_ws C T N, q ∈ Ts) (hc : vwCl[ci]? = some (C, T, N)) (ty0 : Nat → FieldType) (hty : ∀ k, k < N → parseFieldDescriptor (T k).2.2.1 = some (ty0 k)) (hm1 : Cond.classLink own index C ∈ Ts) (hm2 : Cond.instantiable C N ∈ Ts) (hm3 : Cond.initialized C ∈ Ts) {fs : List Value} (hfs : ∀ j, j < N → defaultValue (ty0 j) = vp_V fs j) (hce : ce + 1 ≤ R.cells) (hsl : sl + N ≤ R.slots) (hdg : decode cc pc = .ok (.new index, 3))
    (k : ∀ q : Nat, kG D R X A nL (pc + 3) lv (.ref q :: st) (ws ++ [(q, .inr (ci, fs))]) (ce + 1) (sl + N)) : kG D R X A nL pc lv st ws ce sl := by
  intro H locs ls hP hD hS hl
  exact va_new (ci := ci) (fs := fs) (C := C) (T := T) (N := N) hX.1 hX.2.1 hX.2.2.2.2.1 hin ty0 hty hX.2.2.2.1 (hX.2.2.2.2.1 _ hm1) (hX.2.2.2.2.1 _ hm2) (hX.2.2.2.2.1 _ hm3) hX.2.2.2.2.2.1 hP hD hS hX.2.2.2.2.2.2.1 hc hfs hce hsl hdg (fun q H1 hP1 hD1 hS1 => k q H1 locs ls hP1 hD1 hS1 hl)
theorem k_mmax (hX : kOK D c R X A cc nL own Ts) {index : Nat} {a b : Int} (ha : inI a) (hb : inI b) (hm1 : Cond.methodLink own index Lib.Math.max.name ∈ Ts) (hm2 : Cond.static Lib.Math.max.name ∈ Ts) (hm3 : Cond.initialized "java/lang/Math" ∈ Ts) (hm4 : Cond.code Lib.Math.max.name Lib.Math.max.code 2 (some .int) ∈ Ts) (hfr : 1 ≤ R.frames) (hlo : (st.map fun v => v.category).sum + 13 ≤ R.locals) (hce : ce ≤ R.cells) (hsl : sl ≤ R.slots) (hdg : decode cc pc = .ok (.invokestatic index, 3))
    (k : kG D R X A nL (pc + 3) lv (vI (if a < b then b else a) :: st) ws ce sl) : kG D R X A nL pc lv (vI b :: vI a :: st) ws ce sl := by
  intro H locs ls hP hD hS hl
  refine va_mmax hX.1 hX.2.1 (hX.2.2.1.trans hl.1.symm) hX.2.2.2.1 (hX.2.2.2.2.1 _ hm1) (hX.2.2.2.2.1 _ hm2) (hX.2.2.2.2.1 _ hm3) (hX.2.2.2.2.1 _ hm4) hfr hlo hce hsl hdg ?_
  have e : (if iI a < iI b then iI b else iI a) = iI (if a < b then b else a) := by
    by_cases h : a < b
    · rw [if_pos h, if_pos ((iI_lt ha hb).mpr h)]
    · rw [if_neg h, if_neg (fun q => h ((iI_lt ha hb).mp q))]
  rw [e]
  exact k H locs ls hP hD hS hl
theorem k_init (hX : kOK D c R X A cc nL own Ts) {index maxL n mc ms b : Nat} {y : MethodName} {bytes : ByteArray} {wsy ws' : List Cond} {rm : Room} {As st2 : List Value} {wr : va_W} {e0 : va_E} {K : (Nat → Nat) → va_W} (hM : kM D c (gx_l X) y wsy rm (.ref b :: As) [(b, e0)] K mc ms) (hT : GoodIn Ts wsy) (hw : wsy = Cond.code y bytes maxL none :: ws') (hrc : rm.cells = mc) (hrs : rm.slots = ms)
    (hm1 : Cond.initialized y.cls ∈ Ts) (hm2 : Cond.methodLink own index y ∈ Ts) (hm3 : Cond.instanceMethod y ∈ Ts) (hy1 : y.name = "<init>") (hd : y.cls ≠ "java/lang/invoke/MethodHandle" ∧ y.cls ≠ "java/lang/invoke/VarHandle" ∧ (parseMethodDescriptor y.desc).map (fun d => d.parameters.length) = some n) (hR : rm.frames + 1 ≤ R.frames ∧ 8 + (maxL + 11) + rm.locals ≤ R.locals) (hn : As.length = n) (hst : st = As.reverse ++ .ref b :: st2) (hsum : (st2.map fun v => v.category).sum ≤ 8)
    (hf : ce + mc ≤ R.cells ∧ sl + ms ≤ R.slots) (hdg : decode cc pc = .ok (.invokespecial index, 3))
    (k : ∀ u : Nat → Nat, kG D R X A nL (pc + 3) lv st2 (wr ++ K u) (ce + mc) (sl + ms)) : kG D R X A nL pc lv st (wr ++ [(b, e0)]) ce sl := by
  intro H locs ls hP hD hS hl
  have hPc := k_P1 hP
  have hDc := k_D1 hD
  have hFc := k_F1 hD hS hX.2.2.2.2.2.2.1
  refine va_callv (va_runI (As := As) (rest := st2) ⟨hX.1, hX.2.1, hX.2.2.1, hX.2.2.2.1, hX.2.2.2.2.1⟩ (hM H.size) (cwI n hX.2.2.2.2.1 hT hw hrc hrs (hX.2.2.2.2.1 _ hm1) (hX.2.2.2.2.1 _ hm2) (hX.2.2.2.2.1 _ hm3) hy1 hd hR) ⟨kPre.blind, fun U hU hW => ⟨rfl, by rw [hU], by rw [hU]; exact hPc, va_K.moved hW.alike hX.2.2.2.2.2.1, hDc.weaken (fun _ _ _ _ => trivial), hX.2.2.2.2.2.2.2.1.warm hW, hX.2.2.2.2.2.2.2.2.moved hW.alike⟩⟩ rfl hn hl.1 hst (lv_room hsum) hdg hf) hS (fun q _ h => hFc q h) hFc (fun u t H1 locs1 ht hvm h5 hB hz1 hk1 hS1 => ?_)
  obtain ⟨hP1, hD1⟩ := hB
  rw [ht] at hP1
  obtain ⟨hP2, hD2⟩ := k_joinL (w1 := K u) hP hD hk1 hFc hP1 hD1
  exact k u H1 locs1 ls hP2 hD2 hS1 hl
theorem k_initN (hX : kOK D c R X A cc nL own Ts) {index maxL n mc ms b : Nat} {y : MethodName} {bytes : ByteArray} {wsy ws' : List Cond} {rm : Room} {As st2 : List Value} {wr : va_W} {e0 : va_E} {K : (Nat → Nat) → va_W} (hM : kM D c (gx_l X) y wsy rm (.ref b :: As) [(b, e0)] K mc ms) (hT : GoodIn Ts wsy) (hw : wsy = Cond.code y bytes maxL none :: ws') (hrc : rm.cells = mc) (hrs : rm.slots = ms)
    (hm1 : Cond.initialized y.cls ∈ Ts) (hm2 : (own, index, y) ∈ gNM) (hm3 : Cond.instanceMethod y ∈ Ts) (hy1 : y.name = "<init>") (hd : y.cls ≠ "java/lang/invoke/MethodHandle" ∧ y.cls ≠ "java/lang/invoke/VarHandle" ∧ (parseMethodDescriptor y.desc).map (fun d => d.parameters.length) = some n) (hR : rm.frames + 1 ≤ R.frames ∧ 8 + (maxL + 11) + rm.locals ≤ R.locals) (hn : As.length = n) (hst : st = As.reverse ++ .ref b :: st2) (hsum : (st2.map fun v => v.category).sum ≤ 8)
    (hf : ce + mc ≤ R.cells ∧ sl + ms ≤ R.slots) (hdg : decode cc pc = .ok (.invokespecial index, 3))
    (k : ∀ u : Nat → Nat, kG D R X A nL (pc + 3) lv st2 (wr ++ K u) (ce + mc) (sl + ms)) : kG D R X A nL pc lv st (wr ++ [(b, e0)]) ce sl := by
  intro H locs ls hP hD hS hl
  have hPc := k_P1 hP
  have hDc := k_D1 hD
  have hFc := k_F1 hD hS hX.2.2.2.2.2.2.1
  refine va_callv (va_runIN (As := As) (rest := st2) ⟨hX.1, hX.2.1, hX.2.2.1, hX.2.2.2.1, hX.2.2.2.2.1⟩ (hM H.size) ⟨va_cnB n hX.2.2.2.2.1 hT hw hrc hrs (hX.2.2.2.2.2.2.2.1.1 _ hm2) (hX.2.2.2.2.1 _ hm1) hd hR, hy1, hX.2.2.2.2.1 _ hm3⟩ ⟨kPre.blind, fun U hU hW => ⟨rfl, by rw [hU], by rw [hU]; exact hPc, va_K.moved hW.alike hX.2.2.2.2.2.1, hDc.weaken (fun _ _ _ _ => trivial), hX.2.2.2.2.2.2.2.1.warm hW, hX.2.2.2.2.2.2.2.2.moved hW.alike⟩⟩ rfl hn hl.1 hst (lv_room hsum) hdg hf) hS (fun q _ h => hFc q h) hFc (fun u t H1 locs1 ht hvm h5 hB hz1 hk1 hS1 => ?_)
  obtain ⟨hP1, hD1⟩ := hB
  rw [ht] at hP1
  obtain ⟨hP2, hD2⟩ := k_joinL (w1 := K u) hP hD hk1 hFc hP1 hD1
  exact k u H1 locs1 ls hP2 hD2 hS1 hl
theorem k_vret (hX : kOK D c R X A cc nL own Ts) {K : (Nat → Nat) → va_W} {mc ms : Nat} (hR : kRet D c R X A K mc ms) (u : Nat → Nat) (hws : ws = K u) (hce : ce = mc) (hsl : sl = ms) (hdg : decode cc pc = .ok (.return_, 1)) : kG D R X A nL pc lv [] ws ce sl := by
  intro H locs ls hP hD hS hl
  subst hce
  subst hsl
  subst hws
  have hlk : (gx_h X).locks = false := hR.2.1
  rw [hR.2.2]
  exact W.vret hX.1 hX.2.1 hR.1 (fun t ht hW => ⟨⟨u, rfl, trivial, by rw [ht]; exact hP, hD⟩, hS.F ht⟩) hS.2.2 hdg hlk
end KR

set_option maxHeartbeats 4000000 in
set_option maxRecDepth 100000 in
theorem c_X5_init {D : va_G} {c : Nat → ClassId} {l : Launch} {h0 : Nat} {rm wd : Int} {n : Nat} (hrm : 0 ≤ rm ∧ rm ≤ 100) (hwd : 0 ≤ wd ∧ wd ≤ 100) (hn : (rm * wd).toNat = n) :
    kM D c l yX5_init wsX5_init { frames := 1, cells := 1, slots := n, locals := 21 } [.ref h0, vI (rm), vI (wd)] [(h0, .inr (5, [vI 0, vI 0, .null, vI 0]))] (fun u => [(h0, .inr (5, [vI (rm), vI (wd), .ref (u 1), vI 0])), ((u 1), kI c n (z0F))]) 1 n := by
  refine kM.start (own := RX5) (n := "<init>") (d := "(II)V") (by decide) rfl rfl (Nat.le_of_ble_eq_true rfl) ?_
  intro X A hX hin hR hD0 hXl
  subst hXl
  refine k_at rfl (lv2 := [(0, .ref h0), (1, vI (rm)), (2, vI (wd))]) rfl rfl (ws2 := [(h0, .inr (5, [vI 0, vI 0, .null, vI 0]))]) rfl rfl rfl ?_
  have hnn : 0 ≤ rm * wd ∧ rm * wd ≤ 100000 := ⟨Int.mul_nonneg hrm.1 hwd.1, Int.le_trans (Int.mul_le_mul hrm.2 hwd.2 hwd.1 (by decide)) (by decide)⟩
  refine k_aload_n (pc := 0) hX 0 rfl dX5_init_0 ?_
  refine k_objInit (pc := 1) hX (List.mem_of_getElem? (i := 1) rfl) (List.mem_of_getElem? (i := 2) rfl) (List.mem_of_getElem? (i := 3) rfl) (Nat.le_of_ble_eq_true rfl) (Nat.le_of_ble_eq_true rfl) dX5_init_1 ?_
  refine k_aload_n (pc := 4) hX 0 rfl dX5_init_4 ?_
  refine k_iload_n (pc := 5) hX 1 rfl dX5_init_5 ?_
  refine k_iconst (pc := 6) hX dX5_init_6 ?_
  refine k_mmax (pc := 7) hX (inI_mk (by omega) (by omega)) inI_0 (List.mem_of_getElem? (i := 4) rfl) (List.mem_of_getElem? (i := 5) rfl) (List.mem_of_getElem? (i := 6) rfl) (List.mem_of_getElem? (i := 7) rfl) (Nat.le_of_ble_eq_true rfl) (Nat.le_of_ble_eq_true rfl) (by show 0 ≤ 1; omega) (by show 0 ≤ n; omega) dX5_init_7 ?_
  refine k_at rfl rfl (st2 := [vI (rm), .ref h0]) (by rw [if_neg (by omega)]) rfl rfl rfl ?_
  refine k_putF (pc := 10) hX hin (ci := 5) (fun _ h => List.mem_cons_of_mem _ (List.mem_append_right _ h)) rfl tyX5 tyX5_ok nmX5 0 rfl 0 (by decide) (List.mem_of_getElem? (i := 8) rfl) rfl rfl rfl (tyX5_ok 0 (by decide)) rfl (fit_int _) (Nat.le_of_ble_eq_true rfl) dX5_init_10 ?_
  refine k_at rfl rfl (st2 := []) rfl (ws2 := [(h0, .inr (5, [vI (rm), vI 0, .null, vI 0]))]) rfl (ce2 := 0) rfl (sl2 := 0) rfl ?_
  refine k_aload_n (pc := 13) hX 0 rfl dX5_init_13 ?_
  refine k_iload_n (pc := 14) hX 2 rfl dX5_init_14 ?_
  refine k_iconst (pc := 15) hX dX5_init_15 ?_
  refine k_mmax (pc := 16) hX (inI_mk (by omega) (by omega)) inI_0 (List.mem_of_getElem? (i := 4) rfl) (List.mem_of_getElem? (i := 5) rfl) (List.mem_of_getElem? (i := 6) rfl) (List.mem_of_getElem? (i := 7) rfl) (Nat.le_of_ble_eq_true rfl) (Nat.le_of_ble_eq_true rfl) (by show 0 ≤ 1; omega) (by show 0 ≤ n; omega) dX5_init_16 ?_
  refine k_at rfl rfl (st2 := [vI (wd), .ref h0]) (by rw [if_neg (by omega)]) rfl rfl rfl ?_
  refine k_putF (pc := 19) hX hin (ci := 5) (fun _ h => List.mem_cons_of_mem _ (List.mem_append_right _ h)) rfl tyX5 tyX5_ok nmX5 0 rfl 1 (by decide) (List.mem_of_getElem? (i := 9) rfl) rfl rfl rfl (tyX5_ok 1 (by decide)) rfl (fit_int _) (Nat.le_of_ble_eq_true rfl) dX5_init_19 ?_
  refine k_at rfl rfl (st2 := []) rfl (ws2 := [(h0, .inr (5, [vI (rm), vI (wd), .null, vI 0]))]) rfl (ce2 := 0) rfl (sl2 := 0) rfl ?_
  refine k_aload_n (pc := 22) hX 0 rfl dX5_init_22 ?_
  refine k_aload_n (pc := 23) hX 0 rfl dX5_init_23 ?_
  refine k_get (pc := 24) hX (ci := 5) (fun _ h => List.mem_cons_of_mem _ (List.mem_append_right _ h)) rfl 0 rfl 0 (by decide) (List.mem_of_getElem? (i := 8) rfl) rfl (v := vI (rm)) rfl dX5_init_24 ?_
  refine k_aload_n (pc := 27) hX 0 rfl dX5_init_27 ?_
  refine k_get (pc := 28) hX (ci := 5) (fun _ h => List.mem_cons_of_mem _ (List.mem_append_right _ h)) rfl 0 rfl 1 (by decide) (List.mem_of_getElem? (i := 9) rfl) rfl (v := vI (wd)) rfl dX5_init_28 ?_
  refine k_imul (pc := 31) hX dX5_init_31 ?_
  refine k_newi (pc := 32) hX (List.mem_of_getElem? (i := 10) rfl) (N := n) hnn hn (by show 0 + 1 ≤ 1; omega) (by show 0 + n ≤ n; omega) dX5_init_32 (fun q32 => ?_)
  refine k_at rfl rfl (st2 := [.ref q32, .ref h0]) rfl (ws2 := [(h0, .inr (5, [vI (rm), vI (wd), .null, vI 0])), (q32, kI c n (z0F))]) rfl (ce2 := 1) rfl (sl2 := 0 + n) rfl ?_
  refine k_putF (pc := 34) hX hin (ci := 5) (fun _ h => List.mem_cons_of_mem _ (List.mem_append_right _ h)) rfl tyX5 tyX5_ok nmX5 0 rfl 2 (by decide) (List.mem_of_getElem? (i := 11) rfl) rfl rfl rfl (tyX5_ok 2 (by decide)) rfl (by rfl) (Nat.le_of_ble_eq_true rfl) dX5_init_34 ?_
  refine k_at rfl rfl (st2 := []) rfl (ws2 := [(h0, .inr (5, [vI (rm), vI (wd), .ref q32, vI 0])), (q32, kI c n (z0F))]) rfl (ce2 := 1) rfl (sl2 := 0 + n) rfl ?_
  exact k_vret (pc := 37) hX hR (fun i => ([h0, q32] : List Nat).getD i 0) rfl rfl (Nat.zero_add n) dX5_init_37

set_option maxHeartbeats 4000000 in
set_option maxRecDepth 100000 in
theorem c_X3_init {D : va_G} {c : Nat → ClassId} {l : Launch} {h0 : Nat}  :
    kM D c l yX3_init wsX3_init { frames := 1, cells := 1, slots := 8, locals := 21 } [.ref h0] [(h0, .inr (3, [.null, vI 0, vI 0, vI 0, vI 0, vI 0, vI 0, vI 0, vI 0, vI 0, vI 0]))] (fun u => [(h0, .inr (3, [.ref (u 1), vI 0, vI 0, vI 0, vI 0, vI 0, vI 0, vI 0, vI 0, vI 0, vI 0])), ((u 1), kI c 8 (updZ (updZ (updZ (updZ (updZ (updZ (updZ (updZ (z0F) (0) (0)) (1) (0)) (2) (10)) (3) (30000)) (4) (10)) (5) (5)) (6) (5000)) (7) (100)))]) 1 8 := by
  refine kM.start (own := RX3) (n := "<init>") (d := "()V") (by decide) rfl rfl (Nat.le_of_ble_eq_true rfl) ?_
  intro X A hX hin hR hD0 hXl
  subst hXl
  refine k_at rfl (lv2 := [(0, .ref h0)]) rfl rfl (ws2 := [(h0, .inr (3, [.null, vI 0, vI 0, vI 0, vI 0, vI 0, vI 0, vI 0, vI 0, vI 0, vI 0]))]) rfl rfl rfl ?_
  refine k_aload_n (pc := 0) hX 0 rfl dX3_init_0 ?_
  refine k_objInit (pc := 1) hX (List.mem_of_getElem? (i := 1) rfl) (List.mem_of_getElem? (i := 2) rfl) (List.mem_of_getElem? (i := 3) rfl) (Nat.le_of_ble_eq_true rfl) (Nat.le_of_ble_eq_true rfl) dX3_init_1 ?_
  refine k_aload_n (pc := 4) hX 0 rfl dX3_init_4 ?_
  refine k_bipush (pc := 5) hX (by decide) dX3_init_5 ?_
  refine k_newi (pc := 7) hX (List.mem_of_getElem? (i := 4) rfl) (N := 8) (by decide) rfl (by show 0 + 1 ≤ 1; omega) (by show 0 + 8 ≤ 8; omega) dX3_init_7 (fun q7 => ?_)
  refine k_at rfl rfl (st2 := [.ref q7, .ref h0]) rfl (ws2 := [(h0, .inr (3, [.null, vI 0, vI 0, vI 0, vI 0, vI 0, vI 0, vI 0, vI 0, vI 0, vI 0])), (q7, kI c 8 (z0F))]) rfl (ce2 := 1) rfl (sl2 := 8) rfl ?_
  refine k_dup (pc := 9) hX rfl dX3_init_9 ?_
  refine k_iconst (pc := 10) hX dX3_init_10 ?_
  refine k_iconst (pc := 11) hX dX3_init_11 ?_
  refine k_iast (pc := 12) hX 1 rfl (by decide) (by decide) (by decide) dX3_init_12 ?_
  refine k_at rfl rfl (st2 := [.ref q7, .ref h0]) rfl (ws2 := [(h0, .inr (3, [.null, vI 0, vI 0, vI 0, vI 0, vI 0, vI 0, vI 0, vI 0, vI 0, vI 0])), (q7, kI c 8 (updZ (z0F) (0) (0)))]) rfl (ce2 := 1) rfl (sl2 := 8) rfl ?_
  refine k_dup (pc := 13) hX rfl dX3_init_13 ?_
  refine k_iconst (pc := 14) hX dX3_init_14 ?_
  refine k_iconst (pc := 15) hX dX3_init_15 ?_
  refine k_iast (pc := 16) hX 1 rfl (by decide) (by decide) (by decide) dX3_init_16 ?_
  refine k_at rfl rfl (st2 := [.ref q7, .ref h0]) rfl (ws2 := [(h0, .inr (3, [.null, vI 0, vI 0, vI 0, vI 0, vI 0, vI 0, vI 0, vI 0, vI 0, vI 0])), (q7, kI c 8 (updZ (updZ (z0F) (0) (0)) (1) (0)))]) rfl (ce2 := 1) rfl (sl2 := 8) rfl ?_
  refine k_dup (pc := 17) hX rfl dX3_init_17 ?_
  refine k_iconst (pc := 18) hX dX3_init_18 ?_
  refine k_bipush (pc := 19) hX (by decide) dX3_init_19 ?_
  refine k_iast (pc := 21) hX 1 rfl (by decide) (by decide) (by decide) dX3_init_21 ?_
  refine k_at rfl rfl (st2 := [.ref q7, .ref h0]) rfl (ws2 := [(h0, .inr (3, [.null, vI 0, vI 0, vI 0, vI 0, vI 0, vI 0, vI 0, vI 0, vI 0, vI 0])), (q7, kI c 8 (updZ (updZ (updZ (z0F) (0) (0)) (1) (0)) (2) (10)))]) rfl (ce2 := 1) rfl (sl2 := 8) rfl ?_
  refine k_dup (pc := 22) hX rfl dX3_init_22 ?_
  refine k_iconst (pc := 23) hX dX3_init_23 ?_
  refine k_sipush (pc := 24) hX (by decide) dX3_init_24 ?_
  refine k_iast (pc := 27) hX 1 rfl (by decide) (by decide) (by decide) dX3_init_27 ?_
  refine k_at rfl rfl (st2 := [.ref q7, .ref h0]) rfl (ws2 := [(h0, .inr (3, [.null, vI 0, vI 0, vI 0, vI 0, vI 0, vI 0, vI 0, vI 0, vI 0, vI 0])), (q7, kI c 8 (updZ (updZ (updZ (updZ (z0F) (0) (0)) (1) (0)) (2) (10)) (3) (30000)))]) rfl (ce2 := 1) rfl (sl2 := 8) rfl ?_
  refine k_dup (pc := 28) hX rfl dX3_init_28 ?_
  refine k_iconst (pc := 29) hX dX3_init_29 ?_
  refine k_bipush (pc := 30) hX (by decide) dX3_init_30 ?_
  refine k_iast (pc := 32) hX 1 rfl (by decide) (by decide) (by decide) dX3_init_32 ?_
  refine k_at rfl rfl (st2 := [.ref q7, .ref h0]) rfl (ws2 := [(h0, .inr (3, [.null, vI 0, vI 0, vI 0, vI 0, vI 0, vI 0, vI 0, vI 0, vI 0, vI 0])), (q7, kI c 8 (updZ (updZ (updZ (updZ (updZ (z0F) (0) (0)) (1) (0)) (2) (10)) (3) (30000)) (4) (10)))]) rfl (ce2 := 1) rfl (sl2 := 8) rfl ?_
  refine k_dup (pc := 33) hX rfl dX3_init_33 ?_
  refine k_iconst (pc := 34) hX dX3_init_34 ?_
  refine k_iconst (pc := 35) hX dX3_init_35 ?_
  refine k_iast (pc := 36) hX 1 rfl (by decide) (by decide) (by decide) dX3_init_36 ?_
  refine k_at rfl rfl (st2 := [.ref q7, .ref h0]) rfl (ws2 := [(h0, .inr (3, [.null, vI 0, vI 0, vI 0, vI 0, vI 0, vI 0, vI 0, vI 0, vI 0, vI 0])), (q7, kI c 8 (updZ (updZ (updZ (updZ (updZ (updZ (z0F) (0) (0)) (1) (0)) (2) (10)) (3) (30000)) (4) (10)) (5) (5)))]) rfl (ce2 := 1) rfl (sl2 := 8) rfl ?_
  refine k_dup (pc := 37) hX rfl dX3_init_37 ?_
  refine k_bipush (pc := 38) hX (by decide) dX3_init_38 ?_
  refine k_sipush (pc := 40) hX (by decide) dX3_init_40 ?_
  refine k_iast (pc := 43) hX 1 rfl (by decide) (by decide) (by decide) dX3_init_43 ?_
  refine k_at rfl rfl (st2 := [.ref q7, .ref h0]) rfl (ws2 := [(h0, .inr (3, [.null, vI 0, vI 0, vI 0, vI 0, vI 0, vI 0, vI 0, vI 0, vI 0, vI 0])), (q7, kI c 8 (updZ (updZ (updZ (updZ (updZ (updZ (updZ (z0F) (0) (0)) (1) (0)) (2) (10)) (3) (30000)) (4) (10)) (5) (5)) (6) (5000)))]) rfl (ce2 := 1) rfl (sl2 := 8) rfl ?_
  refine k_dup (pc := 44) hX rfl dX3_init_44 ?_
  refine k_bipush (pc := 45) hX (by decide) dX3_init_45 ?_
  refine k_bipush (pc := 47) hX (by decide) dX3_init_47 ?_
  refine k_iast (pc := 49) hX 1 rfl (by decide) (by decide) (by decide) dX3_init_49 ?_
  refine k_at rfl rfl (st2 := [.ref q7, .ref h0]) rfl (ws2 := [(h0, .inr (3, [.null, vI 0, vI 0, vI 0, vI 0, vI 0, vI 0, vI 0, vI 0, vI 0, vI 0])), (q7, kI c 8 (updZ (updZ (updZ (updZ (updZ (updZ (updZ (updZ (z0F) (0) (0)) (1) (0)) (2) (10)) (3) (30000)) (4) (10)) (5) (5)) (6) (5000)) (7) (100)))]) rfl (ce2 := 1) rfl (sl2 := 8) rfl ?_
  refine k_putF (pc := 50) hX hin (ci := 3) (fun _ h => List.mem_cons_of_mem _ (List.mem_append_right _ h)) rfl tyX3 tyX3_ok nmX3 0 rfl 0 (by decide) (List.mem_of_getElem? (i := 5) rfl) rfl rfl rfl (tyX3_ok 0 (by decide)) rfl (by rfl) (Nat.le_of_ble_eq_true rfl) dX3_init_50 ?_
  refine k_at rfl rfl (st2 := []) rfl (ws2 := [(h0, .inr (3, [.ref q7, vI 0, vI 0, vI 0, vI 0, vI 0, vI 0, vI 0, vI 0, vI 0, vI 0])), (q7, kI c 8 (updZ (updZ (updZ (updZ (updZ (updZ (updZ (updZ (z0F) (0) (0)) (1) (0)) (2) (10)) (3) (30000)) (4) (10)) (5) (5)) (6) (5000)) (7) (100)))]) rfl (ce2 := 1) rfl (sl2 := 8) rfl ?_
  exact k_vret (pc := 53) hX hR (fun i => ([h0, q7] : List Nat).getD i 0) rfl rfl rfl dX3_init_53

set_option maxHeartbeats 4000000 in
set_option maxRecDepth 100000 in
theorem c_X0_init {D : va_G} {c : Nat → ClassId} {l : Launch} {h0 : Nat}  :
    kM D c l yX0_init wsX0_init { frames := 1, cells := 4, slots := 56, locals := 21 } [.ref h0] [(h0, .inr (0, [.null, .null, .null, .null]))] (fun u => [(h0, .inr (0, [.ref (u 1), .ref (u 2), .ref (u 3), .ref (u 4)])), ((u 1), kI c 4 (z0F)), ((u 2), kI c 24 (z0F)), ((u 3), kI c 24 (z0F)), ((u 4), kI c 4 (updZ (updZ (updZ (updZ (z0F) (0) (100)) (1) (100)) (2) (100)) (3) (100)))]) 4 56 := by
  refine kM.start (own := RX0) (n := "<init>") (d := "()V") (by decide) rfl rfl (Nat.le_of_ble_eq_true rfl) ?_
  intro X A hX hin hR hD0 hXl
  subst hXl
  refine k_at rfl (lv2 := [(0, .ref h0)]) rfl rfl (ws2 := [(h0, .inr (0, [.null, .null, .null, .null]))]) rfl rfl rfl ?_
  refine k_aload_n (pc := 0) hX 0 rfl dX0_init_0 ?_
  refine k_objInit (pc := 1) hX (List.mem_of_getElem? (i := 1) rfl) (List.mem_of_getElem? (i := 2) rfl) (List.mem_of_getElem? (i := 3) rfl) (Nat.le_of_ble_eq_true rfl) (Nat.le_of_ble_eq_true rfl) dX0_init_1 ?_
  refine k_aload_n (pc := 4) hX 0 rfl dX0_init_4 ?_
  refine k_iconst (pc := 5) hX dX0_init_5 ?_
  refine k_newi (pc := 6) hX (List.mem_of_getElem? (i := 4) rfl) (N := 4) (by decide) rfl (by show 0 + 1 ≤ 4; omega) (by show 0 + 4 ≤ 56; omega) dX0_init_6 (fun q6 => ?_)
  refine k_at rfl rfl (st2 := [.ref q6, .ref h0]) rfl (ws2 := [(h0, .inr (0, [.null, .null, .null, .null])), (q6, kI c 4 (z0F))]) rfl (ce2 := 1) rfl (sl2 := 4) rfl ?_
  refine k_putF (pc := 8) hX hin (ci := 0) (fun _ h => List.mem_cons_of_mem _ (List.mem_append_right _ h)) rfl tyX0 tyX0_ok nmX0 0 rfl 0 (by decide) (List.mem_of_getElem? (i := 5) rfl) rfl rfl rfl (tyX0_ok 0 (by decide)) rfl (by rfl) (Nat.le_of_ble_eq_true rfl) dX0_init_8 ?_
  refine k_at rfl rfl (st2 := []) rfl (ws2 := [(h0, .inr (0, [.ref q6, .null, .null, .null])), (q6, kI c 4 (z0F))]) rfl (ce2 := 1) rfl (sl2 := 4) rfl ?_
  refine k_aload_n (pc := 11) hX 0 rfl dX0_init_11 ?_
  refine k_bipush (pc := 12) hX (by decide) dX0_init_12 ?_
  refine k_newi (pc := 14) hX (List.mem_of_getElem? (i := 4) rfl) (N := 24) (by decide) rfl (by show 1 + 1 ≤ 4; omega) (by show 4 + 24 ≤ 56; omega) dX0_init_14 (fun q14 => ?_)
  refine k_at rfl rfl (st2 := [.ref q14, .ref h0]) rfl (ws2 := [(h0, .inr (0, [.ref q6, .null, .null, .null])), (q6, kI c 4 (z0F)), (q14, kI c 24 (z0F))]) rfl (ce2 := 2) rfl (sl2 := 28) rfl ?_
  refine k_putF (pc := 16) hX hin (ci := 0) (fun _ h => List.mem_cons_of_mem _ (List.mem_append_right _ h)) rfl tyX0 tyX0_ok nmX0 0 rfl 1 (by decide) (List.mem_of_getElem? (i := 6) rfl) rfl rfl rfl (tyX0_ok 1 (by decide)) rfl (by rfl) (Nat.le_of_ble_eq_true rfl) dX0_init_16 ?_
  refine k_at rfl rfl (st2 := []) rfl (ws2 := [(h0, .inr (0, [.ref q6, .ref q14, .null, .null])), (q6, kI c 4 (z0F)), (q14, kI c 24 (z0F))]) rfl (ce2 := 2) rfl (sl2 := 28) rfl ?_
  refine k_aload_n (pc := 19) hX 0 rfl dX0_init_19 ?_
  refine k_bipush (pc := 20) hX (by decide) dX0_init_20 ?_
  refine k_newi (pc := 22) hX (List.mem_of_getElem? (i := 4) rfl) (N := 24) (by decide) rfl (by show 2 + 1 ≤ 4; omega) (by show 28 + 24 ≤ 56; omega) dX0_init_22 (fun q22 => ?_)
  refine k_at rfl rfl (st2 := [.ref q22, .ref h0]) rfl (ws2 := [(h0, .inr (0, [.ref q6, .ref q14, .null, .null])), (q6, kI c 4 (z0F)), (q14, kI c 24 (z0F)), (q22, kI c 24 (z0F))]) rfl (ce2 := 3) rfl (sl2 := 52) rfl ?_
  refine k_putF (pc := 24) hX hin (ci := 0) (fun _ h => List.mem_cons_of_mem _ (List.mem_append_right _ h)) rfl tyX0 tyX0_ok nmX0 0 rfl 2 (by decide) (List.mem_of_getElem? (i := 7) rfl) rfl rfl rfl (tyX0_ok 2 (by decide)) rfl (by rfl) (Nat.le_of_ble_eq_true rfl) dX0_init_24 ?_
  refine k_at rfl rfl (st2 := []) rfl (ws2 := [(h0, .inr (0, [.ref q6, .ref q14, .ref q22, .null])), (q6, kI c 4 (z0F)), (q14, kI c 24 (z0F)), (q22, kI c 24 (z0F))]) rfl (ce2 := 3) rfl (sl2 := 52) rfl ?_
  refine k_aload_n (pc := 27) hX 0 rfl dX0_init_27 ?_
  refine k_iconst (pc := 28) hX dX0_init_28 ?_
  refine k_newi (pc := 29) hX (List.mem_of_getElem? (i := 4) rfl) (N := 4) (by decide) rfl (by show 3 + 1 ≤ 4; omega) (by show 52 + 4 ≤ 56; omega) dX0_init_29 (fun q29 => ?_)
  refine k_at rfl rfl (st2 := [.ref q29, .ref h0]) rfl (ws2 := [(h0, .inr (0, [.ref q6, .ref q14, .ref q22, .null])), (q6, kI c 4 (z0F)), (q14, kI c 24 (z0F)), (q22, kI c 24 (z0F)), (q29, kI c 4 (z0F))]) rfl (ce2 := 4) rfl (sl2 := 56) rfl ?_
  refine k_dup (pc := 31) hX rfl dX0_init_31 ?_
  refine k_iconst (pc := 32) hX dX0_init_32 ?_
  refine k_bipush (pc := 33) hX (by decide) dX0_init_33 ?_
  refine k_iast (pc := 35) hX 4 rfl (by decide) (by decide) (by decide) dX0_init_35 ?_
  refine k_at rfl rfl (st2 := [.ref q29, .ref h0]) rfl (ws2 := [(h0, .inr (0, [.ref q6, .ref q14, .ref q22, .null])), (q6, kI c 4 (z0F)), (q14, kI c 24 (z0F)), (q22, kI c 24 (z0F)), (q29, kI c 4 (updZ (z0F) (0) (100)))]) rfl (ce2 := 4) rfl (sl2 := 56) rfl ?_
  refine k_dup (pc := 36) hX rfl dX0_init_36 ?_
  refine k_iconst (pc := 37) hX dX0_init_37 ?_
  refine k_bipush (pc := 38) hX (by decide) dX0_init_38 ?_
  refine k_iast (pc := 40) hX 4 rfl (by decide) (by decide) (by decide) dX0_init_40 ?_
  refine k_at rfl rfl (st2 := [.ref q29, .ref h0]) rfl (ws2 := [(h0, .inr (0, [.ref q6, .ref q14, .ref q22, .null])), (q6, kI c 4 (z0F)), (q14, kI c 24 (z0F)), (q22, kI c 24 (z0F)), (q29, kI c 4 (updZ (updZ (z0F) (0) (100)) (1) (100)))]) rfl (ce2 := 4) rfl (sl2 := 56) rfl ?_
  refine k_dup (pc := 41) hX rfl dX0_init_41 ?_
  refine k_iconst (pc := 42) hX dX0_init_42 ?_
  refine k_bipush (pc := 43) hX (by decide) dX0_init_43 ?_
  refine k_iast (pc := 45) hX 4 rfl (by decide) (by decide) (by decide) dX0_init_45 ?_
  refine k_at rfl rfl (st2 := [.ref q29, .ref h0]) rfl (ws2 := [(h0, .inr (0, [.ref q6, .ref q14, .ref q22, .null])), (q6, kI c 4 (z0F)), (q14, kI c 24 (z0F)), (q22, kI c 24 (z0F)), (q29, kI c 4 (updZ (updZ (updZ (z0F) (0) (100)) (1) (100)) (2) (100)))]) rfl (ce2 := 4) rfl (sl2 := 56) rfl ?_
  refine k_dup (pc := 46) hX rfl dX0_init_46 ?_
  refine k_iconst (pc := 47) hX dX0_init_47 ?_
  refine k_bipush (pc := 48) hX (by decide) dX0_init_48 ?_
  refine k_iast (pc := 50) hX 4 rfl (by decide) (by decide) (by decide) dX0_init_50 ?_
  refine k_at rfl rfl (st2 := [.ref q29, .ref h0]) rfl (ws2 := [(h0, .inr (0, [.ref q6, .ref q14, .ref q22, .null])), (q6, kI c 4 (z0F)), (q14, kI c 24 (z0F)), (q22, kI c 24 (z0F)), (q29, kI c 4 (updZ (updZ (updZ (updZ (z0F) (0) (100)) (1) (100)) (2) (100)) (3) (100)))]) rfl (ce2 := 4) rfl (sl2 := 56) rfl ?_
  refine k_putF (pc := 51) hX hin (ci := 0) (fun _ h => List.mem_cons_of_mem _ (List.mem_append_right _ h)) rfl tyX0 tyX0_ok nmX0 0 rfl 3 (by decide) (List.mem_of_getElem? (i := 8) rfl) rfl rfl rfl (tyX0_ok 3 (by decide)) rfl (by rfl) (Nat.le_of_ble_eq_true rfl) dX0_init_51 ?_
  refine k_at rfl rfl (st2 := []) rfl (ws2 := [(h0, .inr (0, [.ref q6, .ref q14, .ref q22, .ref q29])), (q6, kI c 4 (z0F)), (q14, kI c 24 (z0F)), (q22, kI c 24 (z0F)), (q29, kI c 4 (updZ (updZ (updZ (updZ (z0F) (0) (100)) (1) (100)) (2) (100)) (3) (100)))]) rfl (ce2 := 4) rfl (sl2 := 56) rfl ?_
  exact k_vret (pc := 54) hX hR (fun i => ([h0, q6, q14, q22, q29] : List Nat).getD i 0) rfl rfl rfl dX0_init_54

set_option maxHeartbeats 4000000 in
set_option maxRecDepth 100000 in
theorem c_X1_init {D : va_G} {c : Nat → ClassId} {l : Launch} {h0 : Nat}  :
    kM D c l yX1_init wsX1_init { frames := 1, cells := 1, slots := 60, locals := 21 } [.ref h0] [(h0, .inr (1, [.null, vI 0, vI 0, vI 0, vI 0, vI 0, vI 0, vI 0, vI 0]))] (fun u => [(h0, .inr (1, [.ref (u 1), vI 0, vI 0, vI 0, vI 0, vI 0, vI 0, vI 0, vI 0])), ((u 1), kI c 60 (z0F))]) 1 60 := by
  refine kM.start (own := RX1) (n := "<init>") (d := "()V") (by decide) rfl rfl (Nat.le_of_ble_eq_true rfl) ?_
  intro X A hX hin hR hD0 hXl
  subst hXl
  refine k_at rfl (lv2 := [(0, .ref h0)]) rfl rfl (ws2 := [(h0, .inr (1, [.null, vI 0, vI 0, vI 0, vI 0, vI 0, vI 0, vI 0, vI 0]))]) rfl rfl rfl ?_
  refine k_aload_n (pc := 0) hX 0 rfl dX1_init_0 ?_
  refine k_objInit (pc := 1) hX (List.mem_of_getElem? (i := 1) rfl) (List.mem_of_getElem? (i := 2) rfl) (List.mem_of_getElem? (i := 3) rfl) (Nat.le_of_ble_eq_true rfl) (Nat.le_of_ble_eq_true rfl) dX1_init_1 ?_
  refine k_aload_n (pc := 4) hX 0 rfl dX1_init_4 ?_
  refine k_bipush (pc := 5) hX (by decide) dX1_init_5 ?_
  refine k_newi (pc := 7) hX (List.mem_of_getElem? (i := 4) rfl) (N := 60) (by decide) rfl (by show 0 + 1 ≤ 1; omega) (by show 0 + 60 ≤ 60; omega) dX1_init_7 (fun q7 => ?_)
  refine k_at rfl rfl (st2 := [.ref q7, .ref h0]) rfl (ws2 := [(h0, .inr (1, [.null, vI 0, vI 0, vI 0, vI 0, vI 0, vI 0, vI 0, vI 0])), (q7, kI c 60 (z0F))]) rfl (ce2 := 1) rfl (sl2 := 60) rfl ?_
  refine k_putF (pc := 9) hX hin (ci := 1) (fun _ h => List.mem_cons_of_mem _ (List.mem_append_right _ h)) rfl tyX1 tyX1_ok nmX1 0 rfl 0 (by decide) (List.mem_of_getElem? (i := 5) rfl) rfl rfl rfl (tyX1_ok 0 (by decide)) rfl (by rfl) (Nat.le_of_ble_eq_true rfl) dX1_init_9 ?_
  refine k_at rfl rfl (st2 := []) rfl (ws2 := [(h0, .inr (1, [.ref q7, vI 0, vI 0, vI 0, vI 0, vI 0, vI 0, vI 0, vI 0])), (q7, kI c 60 (z0F))]) rfl (ce2 := 1) rfl (sl2 := 60) rfl ?_
  exact k_vret (pc := 12) hX hR (fun i => ([h0, q7] : List Nat).getD i 0) rfl rfl rfl dX1_init_12

set_option maxHeartbeats 4000000 in
set_option maxRecDepth 100000 in
theorem c_X2_init {D : va_G} {c : Nat → ClassId} {l : Launch} {h0 : Nat}  :
    kM D c l yX2_init wsX2_init { frames := 2, cells := 2, slots := 508, locals := 43 } [.ref h0] [(h0, .inr (2, [.null]))] (fun u => [(h0, .inr (2, [.ref (u 1)])), ((u 1), .inr (5, [vI (8), vI (63), .ref (u 2), vI 0])), ((u 2), kI c 504 (z0F))]) 2 508 := by
  refine kM.start (own := RX2) (n := "<init>") (d := "()V") (by decide) rfl rfl (Nat.le_of_ble_eq_true rfl) ?_
  intro X A hX hin hR hD0 hXl
  subst hXl
  refine k_at rfl (lv2 := [(0, .ref h0)]) rfl rfl (ws2 := [(h0, .inr (2, [.null]))]) rfl rfl rfl ?_
  refine k_aload_n (pc := 0) hX 0 rfl dX2_init_0 ?_
  refine k_objInit (pc := 1) hX (List.mem_of_getElem? (i := 1) rfl) (List.mem_of_getElem? (i := 2) rfl) (List.mem_of_getElem? (i := 3) rfl) (Nat.le_of_ble_eq_true rfl) (Nat.le_of_ble_eq_true rfl) dX2_init_1 ?_
  refine k_aload_n (pc := 4) hX 0 rfl dX2_init_4 ?_
  refine k_new (pc := 5) hX (ci := 5) (C := RX5) (T := TX5) (N := 4) (fun _ h => List.mem_cons_of_mem _ (List.mem_append_left _ (List.mem_append_right _ h))) rfl tyX5 tyX5_ok (List.mem_of_getElem? (i := 4) rfl) (List.mem_of_getElem? (i := 5) rfl) (List.mem_of_getElem? (i := 6) rfl) (fs := [vI 0, vI 0, .null, vI 0]) (fun j hj => by rcases (show j = 0 ∨ j = 1 ∨ j = 2 ∨ j = 3 by omega) with rfl | rfl | rfl | rfl <;> rfl) (by show 0 + 1 ≤ 2; omega) (by show 0 + 4 ≤ 508; omega) dX2_init_5 (fun q5 => ?_)
  refine k_dup (pc := 8) hX rfl dX2_init_8 ?_
  refine k_bipush (pc := 9) hX (by decide) dX2_init_9 ?_
  refine k_bipush (pc := 11) hX (by decide) dX2_init_11 ?_
  refine k_init (pc := 13) hX (n := 2) (b := q5) (As := [vI (8), vI (63)]) (st2 := [.ref q5, .ref h0]) (wr := [(h0, .inr (2, [.null]))]) (c_X5_init (rm := 8) (wd := 63) (n := 504) (by decide) (by decide) rfl) gX2_init_X5_init rfl rfl rfl (List.mem_of_getElem? (i := 6) rfl) (List.mem_of_getElem? (i := 8) rfl) (List.mem_of_getElem? (i := 9) rfl) rfl (by decide +kernel) ⟨Nat.le_of_ble_eq_true rfl, Nat.le_of_ble_eq_true rfl⟩ rfl rfl (Nat.le_of_ble_eq_true rfl) (by show 1 + 1 ≤ 2 ∧ 4 + 504 ≤ 508; omega) dX2_init_13 (fun u13 => ?_)
  refine k_at rfl rfl (st2 := [.ref q5, .ref h0]) rfl (ws2 := [(h0, .inr (2, [.null])), (q5, .inr (5, [vI (8), vI (63), .ref (u13 1), vI 0])), ((u13 1), kI c 504 (z0F))]) rfl (ce2 := 2) rfl (sl2 := 508) rfl ?_
  refine k_putF (pc := 16) hX hin (ci := 2) (fun _ h => List.mem_cons_of_mem _ (List.mem_append_right _ h)) rfl tyX2 tyX2_ok nmX2 0 rfl 0 (by decide) (List.mem_of_getElem? (i := 7) rfl) rfl rfl rfl (tyX2_ok 0 (by decide)) rfl (by rfl) (Nat.le_of_ble_eq_true rfl) dX2_init_16 ?_
  refine k_at rfl rfl (st2 := []) rfl (ws2 := [(h0, .inr (2, [.ref q5])), (q5, .inr (5, [vI (8), vI (63), .ref (u13 1), vI 0])), ((u13 1), kI c 504 (z0F))]) rfl (ce2 := 2) rfl (sl2 := 508) rfl ?_
  exact k_vret (pc := 19) hX hR (fun i => ([h0, q5, (u13 1)] : List Nat).getD i 0) rfl rfl rfl dX2_init_19

/-- a new state: its cells -/
def stL (c : Nat → ClassId) (b : Nat) (u : Nat → Nat) : va_W := [(b, .inr (4, [.ref (u 1), .ref (u 3), .ref (u 8), .ref (u 11), .ref (u 13), .ref (u 15)])), ((u 1), .inr (3, [.ref (u 2), vI 0, vI 0, vI 0, vI 0, vI 0, vI 0, vI 0, vI 0, vI 0, vI 0])), ((u 2), kI c 8 (updZ (updZ (updZ (updZ (updZ (updZ (updZ (updZ (z0F) (0) (0)) (1) (0)) (2) (10)) (3) (30000)) (4) (10)) (5) (5)) (6) (5000)) (7) (100))), ((u 3), .inr (0, [.ref (u 4), .ref (u 5), .ref (u 6), .ref (u 7)])), ((u 4), kI c 4 (z0F)), ((u 5), kI c 24 (z0F)), ((u 6), kI c 24 (z0F)), ((u 7), kI c 4 (updZ (updZ (updZ (updZ (z0F) (0) (100)) (1) (100)) (2) (100)) (3) (100))), ((u 8), .inr (2, [.ref (u 9)])), ((u 9), .inr (5, [vI (8), vI (63), .ref (u 10), vI 0])), ((u 10), kI c 504 (z0F)), ((u 11), .inr (5, [vI (30), vI (22), .ref (u 12), vI 0])), ((u 12), kI c 660 (z0F)), ((u 13), .inr (5, [vI (20), vI (6), .ref (u 14), vI 0])), ((u 14), kI c 120 (z0F)), ((u 15), .inr (5, [vI (20), vI (22), .ref (u 16), vI 0])), ((u 16), kI c 440 (z0F))]

set_option maxHeartbeats 4000000 in
set_option maxRecDepth 100000 in
theorem c_X4_init {D : va_G} {c : Nat → ClassId} {l : Launch} {h0 : Nat}  :
    kM D c l yX4_init wsX4_init { frames := 3, cells := 16, slots := 1820, locals := 63 } [.ref h0] [(h0, .inr (4, [.null, .null, .null, .null, .null, .null]))] (fun u => stL c h0 u) 16 1820 := by
  refine kM.start (own := RX4) (n := "<init>") (d := "()V") (by decide) rfl rfl (Nat.le_of_ble_eq_true rfl) ?_
  intro X A hX hin hR hD0 hXl
  subst hXl
  refine k_at rfl (lv2 := [(0, .ref h0)]) rfl rfl (ws2 := [(h0, .inr (4, [.null, .null, .null, .null, .null, .null]))]) rfl rfl rfl ?_
  refine k_aload_n (pc := 0) hX 0 rfl dX4_init_0 ?_
  refine k_objInit (pc := 1) hX (List.mem_of_getElem? (i := 1) rfl) (List.mem_of_getElem? (i := 2) rfl) (List.mem_of_getElem? (i := 3) rfl) (Nat.le_of_ble_eq_true rfl) (Nat.le_of_ble_eq_true rfl) dX4_init_1 ?_
  refine k_aload_n (pc := 4) hX 0 rfl dX4_init_4 ?_
  refine k_new (pc := 5) hX (ci := 3) (C := RX3) (T := TX3) (N := 11) (fun _ h => List.mem_cons_of_mem _ (List.mem_append_left _ (List.mem_append_left _ (List.mem_append_left _ (List.mem_append_left _ (List.mem_append_right _ h)))))) rfl tyX3 tyX3_ok (List.mem_of_getElem? (i := 4) rfl) (List.mem_of_getElem? (i := 5) rfl) (List.mem_of_getElem? (i := 6) rfl) (fs := [.null, vI 0, vI 0, vI 0, vI 0, vI 0, vI 0, vI 0, vI 0, vI 0, vI 0]) (fun j hj => by rcases (show j = 0 ∨ j = 1 ∨ j = 2 ∨ j = 3 ∨ j = 4 ∨ j = 5 ∨ j = 6 ∨ j = 7 ∨ j = 8 ∨ j = 9 ∨ j = 10 by omega) with rfl | rfl | rfl | rfl | rfl | rfl | rfl | rfl | rfl | rfl | rfl <;> rfl) (by show 0 + 1 ≤ 16; omega) (by show 0 + 11 ≤ 1820; omega) dX4_init_5 (fun q5 => ?_)
  refine k_dup (pc := 8) hX rfl dX4_init_8 ?_
  refine k_initN (pc := 9) hX (n := 0) (b := q5) (As := []) (st2 := [.ref q5, .ref h0]) (wr := [(h0, .inr (4, [.null, .null, .null, .null, .null, .null]))]) (c_X3_init) ggX4_init_X3_init rfl rfl rfl (List.mem_of_getElem? (i := 6) rfl) (List.mem_of_getElem? (i := 1) rfl) (List.mem_of_getElem? (i := 22) rfl) rfl (by decide +kernel) ⟨Nat.le_of_ble_eq_true rfl, Nat.le_of_ble_eq_true rfl⟩ rfl rfl (Nat.le_of_ble_eq_true rfl) (by show 1 + 1 ≤ 16 ∧ 11 + 8 ≤ 1820; omega) dX4_init_9 (fun u9 => ?_)
  refine k_at rfl rfl (st2 := [.ref q5, .ref h0]) rfl (ws2 := [(h0, .inr (4, [.null, .null, .null, .null, .null, .null])), (q5, .inr (3, [.ref (u9 1), vI 0, vI 0, vI 0, vI 0, vI 0, vI 0, vI 0, vI 0, vI 0, vI 0])), ((u9 1), kI c 8 (updZ (updZ (updZ (updZ (updZ (updZ (updZ (updZ (z0F) (0) (0)) (1) (0)) (2) (10)) (3) (30000)) (4) (10)) (5) (5)) (6) (5000)) (7) (100)))]) rfl (ce2 := 2) rfl (sl2 := 19) rfl ?_
  refine k_putF (pc := 12) hX hin (ci := 4) (fun _ h => List.mem_cons_of_mem _ (List.mem_append_left _ (List.mem_append_left _ (List.mem_append_left _ (List.mem_append_right _ h))))) rfl tyX4 tyX4_ok nmX4 0 rfl 0 (by decide) (List.mem_of_getElem? (i := 7) rfl) rfl rfl rfl (tyX4_ok 0 (by decide)) rfl (by rfl) (Nat.le_of_ble_eq_true rfl) dX4_init_12 ?_
  refine k_at rfl rfl (st2 := []) rfl (ws2 := [(h0, .inr (4, [.ref q5, .null, .null, .null, .null, .null])), (q5, .inr (3, [.ref (u9 1), vI 0, vI 0, vI 0, vI 0, vI 0, vI 0, vI 0, vI 0, vI 0, vI 0])), ((u9 1), kI c 8 (updZ (updZ (updZ (updZ (updZ (updZ (updZ (updZ (z0F) (0) (0)) (1) (0)) (2) (10)) (3) (30000)) (4) (10)) (5) (5)) (6) (5000)) (7) (100)))]) rfl (ce2 := 2) rfl (sl2 := 19) rfl ?_
  refine k_aload_n (pc := 15) hX 0 rfl dX4_init_15 ?_
  refine k_new (pc := 16) hX (ci := 0) (C := RX0) (T := TX0) (N := 4) (fun _ h => List.mem_cons_of_mem _ (List.mem_append_left _ (List.mem_append_left _ (List.mem_append_right _ h)))) rfl tyX0 tyX0_ok (List.mem_of_getElem? (i := 8) rfl) (List.mem_of_getElem? (i := 9) rfl) (List.mem_of_getElem? (i := 10) rfl) (fs := [.null, .null, .null, .null]) (fun j hj => by rcases (show j = 0 ∨ j = 1 ∨ j = 2 ∨ j = 3 by omega) with rfl | rfl | rfl | rfl <;> rfl) (by show 2 + 1 ≤ 16; omega) (by show 19 + 4 ≤ 1820; omega) dX4_init_16 (fun q16 => ?_)
  refine k_dup (pc := 19) hX rfl dX4_init_19 ?_
  refine k_initN (pc := 20) hX (n := 0) (b := q16) (As := []) (st2 := [.ref q16, .ref h0]) (wr := [(h0, .inr (4, [.ref q5, .null, .null, .null, .null, .null])), (q5, .inr (3, [.ref (u9 1), vI 0, vI 0, vI 0, vI 0, vI 0, vI 0, vI 0, vI 0, vI 0, vI 0])), ((u9 1), kI c 8 (updZ (updZ (updZ (updZ (updZ (updZ (updZ (updZ (z0F) (0) (0)) (1) (0)) (2) (10)) (3) (30000)) (4) (10)) (5) (5)) (6) (5000)) (7) (100)))]) (c_X0_init) ggX4_init_X0_init rfl rfl rfl (List.mem_of_getElem? (i := 10) rfl) (List.mem_of_getElem? (i := 2) rfl) (List.mem_of_getElem? (i := 27) rfl) rfl (by decide +kernel) ⟨Nat.le_of_ble_eq_true rfl, Nat.le_of_ble_eq_true rfl⟩ rfl rfl (Nat.le_of_ble_eq_true rfl) (by show 3 + 4 ≤ 16 ∧ 23 + 56 ≤ 1820; omega) dX4_init_20 (fun u20 => ?_)
  refine k_at rfl rfl (st2 := [.ref q16, .ref h0]) rfl (ws2 := [(h0, .inr (4, [.ref q5, .null, .null, .null, .null, .null])), (q5, .inr (3, [.ref (u9 1), vI 0, vI 0, vI 0, vI 0, vI 0, vI 0, vI 0, vI 0, vI 0, vI 0])), ((u9 1), kI c 8 (updZ (updZ (updZ (updZ (updZ (updZ (updZ (updZ (z0F) (0) (0)) (1) (0)) (2) (10)) (3) (30000)) (4) (10)) (5) (5)) (6) (5000)) (7) (100))), (q16, .inr (0, [.ref (u20 1), .ref (u20 2), .ref (u20 3), .ref (u20 4)])), ((u20 1), kI c 4 (z0F)), ((u20 2), kI c 24 (z0F)), ((u20 3), kI c 24 (z0F)), ((u20 4), kI c 4 (updZ (updZ (updZ (updZ (z0F) (0) (100)) (1) (100)) (2) (100)) (3) (100)))]) rfl (ce2 := 7) rfl (sl2 := 79) rfl ?_
  refine k_putF (pc := 23) hX hin (ci := 4) (fun _ h => List.mem_cons_of_mem _ (List.mem_append_left _ (List.mem_append_left _ (List.mem_append_left _ (List.mem_append_right _ h))))) rfl tyX4 tyX4_ok nmX4 0 rfl 1 (by decide) (List.mem_of_getElem? (i := 11) rfl) rfl rfl rfl (tyX4_ok 1 (by decide)) rfl (by rfl) (Nat.le_of_ble_eq_true rfl) dX4_init_23 ?_
  refine k_at rfl rfl (st2 := []) rfl (ws2 := [(h0, .inr (4, [.ref q5, .ref q16, .null, .null, .null, .null])), (q5, .inr (3, [.ref (u9 1), vI 0, vI 0, vI 0, vI 0, vI 0, vI 0, vI 0, vI 0, vI 0, vI 0])), ((u9 1), kI c 8 (updZ (updZ (updZ (updZ (updZ (updZ (updZ (updZ (z0F) (0) (0)) (1) (0)) (2) (10)) (3) (30000)) (4) (10)) (5) (5)) (6) (5000)) (7) (100))), (q16, .inr (0, [.ref (u20 1), .ref (u20 2), .ref (u20 3), .ref (u20 4)])), ((u20 1), kI c 4 (z0F)), ((u20 2), kI c 24 (z0F)), ((u20 3), kI c 24 (z0F)), ((u20 4), kI c 4 (updZ (updZ (updZ (updZ (z0F) (0) (100)) (1) (100)) (2) (100)) (3) (100)))]) rfl (ce2 := 7) rfl (sl2 := 79) rfl ?_
  refine k_aload_n (pc := 26) hX 0 rfl dX4_init_26 ?_
  refine k_new (pc := 27) hX (ci := 2) (C := RX2) (T := TX2) (N := 1) (fun _ h => List.mem_cons_of_mem _ (List.mem_append_left _ (List.mem_append_right _ h))) rfl tyX2 tyX2_ok (List.mem_of_getElem? (i := 12) rfl) (List.mem_of_getElem? (i := 13) rfl) (List.mem_of_getElem? (i := 14) rfl) (fs := [.null]) (fun j hj => by rcases (show j = 0 by omega) with rfl <;> rfl) (by show 7 + 1 ≤ 16; omega) (by show 79 + 1 ≤ 1820; omega) dX4_init_27 (fun q27 => ?_)
  refine k_dup (pc := 30) hX rfl dX4_init_30 ?_
  refine k_initN (pc := 31) hX (n := 0) (b := q27) (As := []) (st2 := [.ref q27, .ref h0]) (wr := [(h0, .inr (4, [.ref q5, .ref q16, .null, .null, .null, .null])), (q5, .inr (3, [.ref (u9 1), vI 0, vI 0, vI 0, vI 0, vI 0, vI 0, vI 0, vI 0, vI 0, vI 0])), ((u9 1), kI c 8 (updZ (updZ (updZ (updZ (updZ (updZ (updZ (updZ (z0F) (0) (0)) (1) (0)) (2) (10)) (3) (30000)) (4) (10)) (5) (5)) (6) (5000)) (7) (100))), (q16, .inr (0, [.ref (u20 1), .ref (u20 2), .ref (u20 3), .ref (u20 4)])), ((u20 1), kI c 4 (z0F)), ((u20 2), kI c 24 (z0F)), ((u20 3), kI c 24 (z0F)), ((u20 4), kI c 4 (updZ (updZ (updZ (updZ (z0F) (0) (100)) (1) (100)) (2) (100)) (3) (100)))]) (c_X2_init) ggX4_init_X2_init rfl rfl rfl (List.mem_of_getElem? (i := 14) rfl) (List.mem_of_getElem? (i := 3) rfl) (List.mem_of_getElem? (i := 34) rfl) rfl (by decide +kernel) ⟨Nat.le_of_ble_eq_true rfl, Nat.le_of_ble_eq_true rfl⟩ rfl rfl (Nat.le_of_ble_eq_true rfl) (by show 8 + 2 ≤ 16 ∧ 80 + 508 ≤ 1820; omega) dX4_init_31 (fun u31 => ?_)
  refine k_at rfl rfl (st2 := [.ref q27, .ref h0]) rfl (ws2 := [(h0, .inr (4, [.ref q5, .ref q16, .null, .null, .null, .null])), (q5, .inr (3, [.ref (u9 1), vI 0, vI 0, vI 0, vI 0, vI 0, vI 0, vI 0, vI 0, vI 0, vI 0])), ((u9 1), kI c 8 (updZ (updZ (updZ (updZ (updZ (updZ (updZ (updZ (z0F) (0) (0)) (1) (0)) (2) (10)) (3) (30000)) (4) (10)) (5) (5)) (6) (5000)) (7) (100))), (q16, .inr (0, [.ref (u20 1), .ref (u20 2), .ref (u20 3), .ref (u20 4)])), ((u20 1), kI c 4 (z0F)), ((u20 2), kI c 24 (z0F)), ((u20 3), kI c 24 (z0F)), ((u20 4), kI c 4 (updZ (updZ (updZ (updZ (z0F) (0) (100)) (1) (100)) (2) (100)) (3) (100))), (q27, .inr (2, [.ref (u31 1)])), ((u31 1), .inr (5, [vI (8), vI (63), .ref (u31 2), vI 0])), ((u31 2), kI c 504 (z0F))]) rfl (ce2 := 10) rfl (sl2 := 588) rfl ?_
  refine k_putF (pc := 34) hX hin (ci := 4) (fun _ h => List.mem_cons_of_mem _ (List.mem_append_left _ (List.mem_append_left _ (List.mem_append_left _ (List.mem_append_right _ h))))) rfl tyX4 tyX4_ok nmX4 0 rfl 2 (by decide) (List.mem_of_getElem? (i := 15) rfl) rfl rfl rfl (tyX4_ok 2 (by decide)) rfl (by rfl) (Nat.le_of_ble_eq_true rfl) dX4_init_34 ?_
  refine k_at rfl rfl (st2 := []) rfl (ws2 := [(h0, .inr (4, [.ref q5, .ref q16, .ref q27, .null, .null, .null])), (q5, .inr (3, [.ref (u9 1), vI 0, vI 0, vI 0, vI 0, vI 0, vI 0, vI 0, vI 0, vI 0, vI 0])), ((u9 1), kI c 8 (updZ (updZ (updZ (updZ (updZ (updZ (updZ (updZ (z0F) (0) (0)) (1) (0)) (2) (10)) (3) (30000)) (4) (10)) (5) (5)) (6) (5000)) (7) (100))), (q16, .inr (0, [.ref (u20 1), .ref (u20 2), .ref (u20 3), .ref (u20 4)])), ((u20 1), kI c 4 (z0F)), ((u20 2), kI c 24 (z0F)), ((u20 3), kI c 24 (z0F)), ((u20 4), kI c 4 (updZ (updZ (updZ (updZ (z0F) (0) (100)) (1) (100)) (2) (100)) (3) (100))), (q27, .inr (2, [.ref (u31 1)])), ((u31 1), .inr (5, [vI (8), vI (63), .ref (u31 2), vI 0])), ((u31 2), kI c 504 (z0F))]) rfl (ce2 := 10) rfl (sl2 := 588) rfl ?_
  refine k_aload_n (pc := 37) hX 0 rfl dX4_init_37 ?_
  refine k_new (pc := 38) hX (ci := 5) (C := RX5) (T := TX5) (N := 4) (fun _ h => List.mem_cons_of_mem _ (List.mem_append_right _ h)) rfl tyX5 tyX5_ok (List.mem_of_getElem? (i := 16) rfl) (List.mem_of_getElem? (i := 17) rfl) (List.mem_of_getElem? (i := 18) rfl) (fs := [vI 0, vI 0, .null, vI 0]) (fun j hj => by rcases (show j = 0 ∨ j = 1 ∨ j = 2 ∨ j = 3 by omega) with rfl | rfl | rfl | rfl <;> rfl) (by show 10 + 1 ≤ 16; omega) (by show 588 + 4 ≤ 1820; omega) dX4_init_38 (fun q38 => ?_)
  refine k_dup (pc := 41) hX rfl dX4_init_41 ?_
  refine k_bipush (pc := 42) hX (by decide) dX4_init_42 ?_
  refine k_bipush (pc := 44) hX (by decide) dX4_init_44 ?_
  refine k_init (pc := 46) hX (n := 2) (b := q38) (As := [vI (30), vI (22)]) (st2 := [.ref q38, .ref h0]) (wr := [(h0, .inr (4, [.ref q5, .ref q16, .ref q27, .null, .null, .null])), (q5, .inr (3, [.ref (u9 1), vI 0, vI 0, vI 0, vI 0, vI 0, vI 0, vI 0, vI 0, vI 0, vI 0])), ((u9 1), kI c 8 (updZ (updZ (updZ (updZ (updZ (updZ (updZ (updZ (z0F) (0) (0)) (1) (0)) (2) (10)) (3) (30000)) (4) (10)) (5) (5)) (6) (5000)) (7) (100))), (q16, .inr (0, [.ref (u20 1), .ref (u20 2), .ref (u20 3), .ref (u20 4)])), ((u20 1), kI c 4 (z0F)), ((u20 2), kI c 24 (z0F)), ((u20 3), kI c 24 (z0F)), ((u20 4), kI c 4 (updZ (updZ (updZ (updZ (z0F) (0) (100)) (1) (100)) (2) (100)) (3) (100))), (q27, .inr (2, [.ref (u31 1)])), ((u31 1), .inr (5, [vI (8), vI (63), .ref (u31 2), vI 0])), ((u31 2), kI c 504 (z0F))]) (c_X5_init (rm := 30) (wd := 22) (n := 660) (by decide) (by decide) rfl) gX4_init_X5_init rfl rfl rfl (List.mem_of_getElem? (i := 18) rfl) (List.mem_of_getElem? (i := 50) rfl) (List.mem_of_getElem? (i := 40) rfl) rfl (by decide +kernel) ⟨Nat.le_of_ble_eq_true rfl, Nat.le_of_ble_eq_true rfl⟩ rfl rfl (Nat.le_of_ble_eq_true rfl) (by show 11 + 1 ≤ 16 ∧ 592 + 660 ≤ 1820; omega) dX4_init_46 (fun u46 => ?_)
  refine k_at rfl rfl (st2 := [.ref q38, .ref h0]) rfl (ws2 := [(h0, .inr (4, [.ref q5, .ref q16, .ref q27, .null, .null, .null])), (q5, .inr (3, [.ref (u9 1), vI 0, vI 0, vI 0, vI 0, vI 0, vI 0, vI 0, vI 0, vI 0, vI 0])), ((u9 1), kI c 8 (updZ (updZ (updZ (updZ (updZ (updZ (updZ (updZ (z0F) (0) (0)) (1) (0)) (2) (10)) (3) (30000)) (4) (10)) (5) (5)) (6) (5000)) (7) (100))), (q16, .inr (0, [.ref (u20 1), .ref (u20 2), .ref (u20 3), .ref (u20 4)])), ((u20 1), kI c 4 (z0F)), ((u20 2), kI c 24 (z0F)), ((u20 3), kI c 24 (z0F)), ((u20 4), kI c 4 (updZ (updZ (updZ (updZ (z0F) (0) (100)) (1) (100)) (2) (100)) (3) (100))), (q27, .inr (2, [.ref (u31 1)])), ((u31 1), .inr (5, [vI (8), vI (63), .ref (u31 2), vI 0])), ((u31 2), kI c 504 (z0F)), (q38, .inr (5, [vI (30), vI (22), .ref (u46 1), vI 0])), ((u46 1), kI c 660 (z0F))]) rfl (ce2 := 12) rfl (sl2 := 1252) rfl ?_
  refine k_putF (pc := 49) hX hin (ci := 4) (fun _ h => List.mem_cons_of_mem _ (List.mem_append_left _ (List.mem_append_left _ (List.mem_append_left _ (List.mem_append_right _ h))))) rfl tyX4 tyX4_ok nmX4 0 rfl 3 (by decide) (List.mem_of_getElem? (i := 19) rfl) rfl rfl rfl (tyX4_ok 3 (by decide)) rfl (by rfl) (Nat.le_of_ble_eq_true rfl) dX4_init_49 ?_
  refine k_at rfl rfl (st2 := []) rfl (ws2 := [(h0, .inr (4, [.ref q5, .ref q16, .ref q27, .ref q38, .null, .null])), (q5, .inr (3, [.ref (u9 1), vI 0, vI 0, vI 0, vI 0, vI 0, vI 0, vI 0, vI 0, vI 0, vI 0])), ((u9 1), kI c 8 (updZ (updZ (updZ (updZ (updZ (updZ (updZ (updZ (z0F) (0) (0)) (1) (0)) (2) (10)) (3) (30000)) (4) (10)) (5) (5)) (6) (5000)) (7) (100))), (q16, .inr (0, [.ref (u20 1), .ref (u20 2), .ref (u20 3), .ref (u20 4)])), ((u20 1), kI c 4 (z0F)), ((u20 2), kI c 24 (z0F)), ((u20 3), kI c 24 (z0F)), ((u20 4), kI c 4 (updZ (updZ (updZ (updZ (z0F) (0) (100)) (1) (100)) (2) (100)) (3) (100))), (q27, .inr (2, [.ref (u31 1)])), ((u31 1), .inr (5, [vI (8), vI (63), .ref (u31 2), vI 0])), ((u31 2), kI c 504 (z0F)), (q38, .inr (5, [vI (30), vI (22), .ref (u46 1), vI 0])), ((u46 1), kI c 660 (z0F))]) rfl (ce2 := 12) rfl (sl2 := 1252) rfl ?_
  refine k_aload_n (pc := 52) hX 0 rfl dX4_init_52 ?_
  refine k_new (pc := 53) hX (ci := 5) (C := RX5) (T := TX5) (N := 4) (fun _ h => List.mem_cons_of_mem _ (List.mem_append_right _ h)) rfl tyX5 tyX5_ok (List.mem_of_getElem? (i := 16) rfl) (List.mem_of_getElem? (i := 17) rfl) (List.mem_of_getElem? (i := 18) rfl) (fs := [vI 0, vI 0, .null, vI 0]) (fun j hj => by rcases (show j = 0 ∨ j = 1 ∨ j = 2 ∨ j = 3 by omega) with rfl | rfl | rfl | rfl <;> rfl) (by show 12 + 1 ≤ 16; omega) (by show 1252 + 4 ≤ 1820; omega) dX4_init_53 (fun q53 => ?_)
  refine k_dup (pc := 56) hX rfl dX4_init_56 ?_
  refine k_bipush (pc := 57) hX (by decide) dX4_init_57 ?_
  refine k_bipush (pc := 59) hX (by decide) dX4_init_59 ?_
  refine k_init (pc := 61) hX (n := 2) (b := q53) (As := [vI (20), vI (6)]) (st2 := [.ref q53, .ref h0]) (wr := [(h0, .inr (4, [.ref q5, .ref q16, .ref q27, .ref q38, .null, .null])), (q5, .inr (3, [.ref (u9 1), vI 0, vI 0, vI 0, vI 0, vI 0, vI 0, vI 0, vI 0, vI 0, vI 0])), ((u9 1), kI c 8 (updZ (updZ (updZ (updZ (updZ (updZ (updZ (updZ (z0F) (0) (0)) (1) (0)) (2) (10)) (3) (30000)) (4) (10)) (5) (5)) (6) (5000)) (7) (100))), (q16, .inr (0, [.ref (u20 1), .ref (u20 2), .ref (u20 3), .ref (u20 4)])), ((u20 1), kI c 4 (z0F)), ((u20 2), kI c 24 (z0F)), ((u20 3), kI c 24 (z0F)), ((u20 4), kI c 4 (updZ (updZ (updZ (updZ (z0F) (0) (100)) (1) (100)) (2) (100)) (3) (100))), (q27, .inr (2, [.ref (u31 1)])), ((u31 1), .inr (5, [vI (8), vI (63), .ref (u31 2), vI 0])), ((u31 2), kI c 504 (z0F)), (q38, .inr (5, [vI (30), vI (22), .ref (u46 1), vI 0])), ((u46 1), kI c 660 (z0F))]) (c_X5_init (rm := 20) (wd := 6) (n := 120) (by decide) (by decide) rfl) gX4_init_X5_init rfl rfl rfl (List.mem_of_getElem? (i := 18) rfl) (List.mem_of_getElem? (i := 50) rfl) (List.mem_of_getElem? (i := 40) rfl) rfl (by decide +kernel) ⟨Nat.le_of_ble_eq_true rfl, Nat.le_of_ble_eq_true rfl⟩ rfl rfl (Nat.le_of_ble_eq_true rfl) (by show 13 + 1 ≤ 16 ∧ 1256 + 120 ≤ 1820; omega) dX4_init_61 (fun u61 => ?_)
  refine k_at rfl rfl (st2 := [.ref q53, .ref h0]) rfl (ws2 := [(h0, .inr (4, [.ref q5, .ref q16, .ref q27, .ref q38, .null, .null])), (q5, .inr (3, [.ref (u9 1), vI 0, vI 0, vI 0, vI 0, vI 0, vI 0, vI 0, vI 0, vI 0, vI 0])), ((u9 1), kI c 8 (updZ (updZ (updZ (updZ (updZ (updZ (updZ (updZ (z0F) (0) (0)) (1) (0)) (2) (10)) (3) (30000)) (4) (10)) (5) (5)) (6) (5000)) (7) (100))), (q16, .inr (0, [.ref (u20 1), .ref (u20 2), .ref (u20 3), .ref (u20 4)])), ((u20 1), kI c 4 (z0F)), ((u20 2), kI c 24 (z0F)), ((u20 3), kI c 24 (z0F)), ((u20 4), kI c 4 (updZ (updZ (updZ (updZ (z0F) (0) (100)) (1) (100)) (2) (100)) (3) (100))), (q27, .inr (2, [.ref (u31 1)])), ((u31 1), .inr (5, [vI (8), vI (63), .ref (u31 2), vI 0])), ((u31 2), kI c 504 (z0F)), (q38, .inr (5, [vI (30), vI (22), .ref (u46 1), vI 0])), ((u46 1), kI c 660 (z0F)), (q53, .inr (5, [vI (20), vI (6), .ref (u61 1), vI 0])), ((u61 1), kI c 120 (z0F))]) rfl (ce2 := 14) rfl (sl2 := 1376) rfl ?_
  refine k_putF (pc := 64) hX hin (ci := 4) (fun _ h => List.mem_cons_of_mem _ (List.mem_append_left _ (List.mem_append_left _ (List.mem_append_left _ (List.mem_append_right _ h))))) rfl tyX4 tyX4_ok nmX4 0 rfl 4 (by decide) (List.mem_of_getElem? (i := 20) rfl) rfl rfl rfl (tyX4_ok 4 (by decide)) rfl (by rfl) (Nat.le_of_ble_eq_true rfl) dX4_init_64 ?_
  refine k_at rfl rfl (st2 := []) rfl (ws2 := [(h0, .inr (4, [.ref q5, .ref q16, .ref q27, .ref q38, .ref q53, .null])), (q5, .inr (3, [.ref (u9 1), vI 0, vI 0, vI 0, vI 0, vI 0, vI 0, vI 0, vI 0, vI 0, vI 0])), ((u9 1), kI c 8 (updZ (updZ (updZ (updZ (updZ (updZ (updZ (updZ (z0F) (0) (0)) (1) (0)) (2) (10)) (3) (30000)) (4) (10)) (5) (5)) (6) (5000)) (7) (100))), (q16, .inr (0, [.ref (u20 1), .ref (u20 2), .ref (u20 3), .ref (u20 4)])), ((u20 1), kI c 4 (z0F)), ((u20 2), kI c 24 (z0F)), ((u20 3), kI c 24 (z0F)), ((u20 4), kI c 4 (updZ (updZ (updZ (updZ (z0F) (0) (100)) (1) (100)) (2) (100)) (3) (100))), (q27, .inr (2, [.ref (u31 1)])), ((u31 1), .inr (5, [vI (8), vI (63), .ref (u31 2), vI 0])), ((u31 2), kI c 504 (z0F)), (q38, .inr (5, [vI (30), vI (22), .ref (u46 1), vI 0])), ((u46 1), kI c 660 (z0F)), (q53, .inr (5, [vI (20), vI (6), .ref (u61 1), vI 0])), ((u61 1), kI c 120 (z0F))]) rfl (ce2 := 14) rfl (sl2 := 1376) rfl ?_
  refine k_aload_n (pc := 67) hX 0 rfl dX4_init_67 ?_
  refine k_new (pc := 68) hX (ci := 5) (C := RX5) (T := TX5) (N := 4) (fun _ h => List.mem_cons_of_mem _ (List.mem_append_right _ h)) rfl tyX5 tyX5_ok (List.mem_of_getElem? (i := 16) rfl) (List.mem_of_getElem? (i := 17) rfl) (List.mem_of_getElem? (i := 18) rfl) (fs := [vI 0, vI 0, .null, vI 0]) (fun j hj => by rcases (show j = 0 ∨ j = 1 ∨ j = 2 ∨ j = 3 by omega) with rfl | rfl | rfl | rfl <;> rfl) (by show 14 + 1 ≤ 16; omega) (by show 1376 + 4 ≤ 1820; omega) dX4_init_68 (fun q68 => ?_)
  refine k_dup (pc := 71) hX rfl dX4_init_71 ?_
  refine k_bipush (pc := 72) hX (by decide) dX4_init_72 ?_
  refine k_bipush (pc := 74) hX (by decide) dX4_init_74 ?_
  refine k_init (pc := 76) hX (n := 2) (b := q68) (As := [vI (20), vI (22)]) (st2 := [.ref q68, .ref h0]) (wr := [(h0, .inr (4, [.ref q5, .ref q16, .ref q27, .ref q38, .ref q53, .null])), (q5, .inr (3, [.ref (u9 1), vI 0, vI 0, vI 0, vI 0, vI 0, vI 0, vI 0, vI 0, vI 0, vI 0])), ((u9 1), kI c 8 (updZ (updZ (updZ (updZ (updZ (updZ (updZ (updZ (z0F) (0) (0)) (1) (0)) (2) (10)) (3) (30000)) (4) (10)) (5) (5)) (6) (5000)) (7) (100))), (q16, .inr (0, [.ref (u20 1), .ref (u20 2), .ref (u20 3), .ref (u20 4)])), ((u20 1), kI c 4 (z0F)), ((u20 2), kI c 24 (z0F)), ((u20 3), kI c 24 (z0F)), ((u20 4), kI c 4 (updZ (updZ (updZ (updZ (z0F) (0) (100)) (1) (100)) (2) (100)) (3) (100))), (q27, .inr (2, [.ref (u31 1)])), ((u31 1), .inr (5, [vI (8), vI (63), .ref (u31 2), vI 0])), ((u31 2), kI c 504 (z0F)), (q38, .inr (5, [vI (30), vI (22), .ref (u46 1), vI 0])), ((u46 1), kI c 660 (z0F)), (q53, .inr (5, [vI (20), vI (6), .ref (u61 1), vI 0])), ((u61 1), kI c 120 (z0F))]) (c_X5_init (rm := 20) (wd := 22) (n := 440) (by decide) (by decide) rfl) gX4_init_X5_init rfl rfl rfl (List.mem_of_getElem? (i := 18) rfl) (List.mem_of_getElem? (i := 50) rfl) (List.mem_of_getElem? (i := 40) rfl) rfl (by decide +kernel) ⟨Nat.le_of_ble_eq_true rfl, Nat.le_of_ble_eq_true rfl⟩ rfl rfl (Nat.le_of_ble_eq_true rfl) (by show 15 + 1 ≤ 16 ∧ 1380 + 440 ≤ 1820; omega) dX4_init_76 (fun u76 => ?_)
  refine k_at rfl rfl (st2 := [.ref q68, .ref h0]) rfl (ws2 := [(h0, .inr (4, [.ref q5, .ref q16, .ref q27, .ref q38, .ref q53, .null])), (q5, .inr (3, [.ref (u9 1), vI 0, vI 0, vI 0, vI 0, vI 0, vI 0, vI 0, vI 0, vI 0, vI 0])), ((u9 1), kI c 8 (updZ (updZ (updZ (updZ (updZ (updZ (updZ (updZ (z0F) (0) (0)) (1) (0)) (2) (10)) (3) (30000)) (4) (10)) (5) (5)) (6) (5000)) (7) (100))), (q16, .inr (0, [.ref (u20 1), .ref (u20 2), .ref (u20 3), .ref (u20 4)])), ((u20 1), kI c 4 (z0F)), ((u20 2), kI c 24 (z0F)), ((u20 3), kI c 24 (z0F)), ((u20 4), kI c 4 (updZ (updZ (updZ (updZ (z0F) (0) (100)) (1) (100)) (2) (100)) (3) (100))), (q27, .inr (2, [.ref (u31 1)])), ((u31 1), .inr (5, [vI (8), vI (63), .ref (u31 2), vI 0])), ((u31 2), kI c 504 (z0F)), (q38, .inr (5, [vI (30), vI (22), .ref (u46 1), vI 0])), ((u46 1), kI c 660 (z0F)), (q53, .inr (5, [vI (20), vI (6), .ref (u61 1), vI 0])), ((u61 1), kI c 120 (z0F)), (q68, .inr (5, [vI (20), vI (22), .ref (u76 1), vI 0])), ((u76 1), kI c 440 (z0F))]) rfl (ce2 := 16) rfl (sl2 := 1820) rfl ?_
  refine k_putF (pc := 79) hX hin (ci := 4) (fun _ h => List.mem_cons_of_mem _ (List.mem_append_left _ (List.mem_append_left _ (List.mem_append_left _ (List.mem_append_right _ h))))) rfl tyX4 tyX4_ok nmX4 0 rfl 5 (by decide) (List.mem_of_getElem? (i := 21) rfl) rfl rfl rfl (tyX4_ok 5 (by decide)) rfl (by rfl) (Nat.le_of_ble_eq_true rfl) dX4_init_79 ?_
  refine k_at rfl rfl (st2 := []) rfl (ws2 := [(h0, .inr (4, [.ref q5, .ref q16, .ref q27, .ref q38, .ref q53, .ref q68])), (q5, .inr (3, [.ref (u9 1), vI 0, vI 0, vI 0, vI 0, vI 0, vI 0, vI 0, vI 0, vI 0, vI 0])), ((u9 1), kI c 8 (updZ (updZ (updZ (updZ (updZ (updZ (updZ (updZ (z0F) (0) (0)) (1) (0)) (2) (10)) (3) (30000)) (4) (10)) (5) (5)) (6) (5000)) (7) (100))), (q16, .inr (0, [.ref (u20 1), .ref (u20 2), .ref (u20 3), .ref (u20 4)])), ((u20 1), kI c 4 (z0F)), ((u20 2), kI c 24 (z0F)), ((u20 3), kI c 24 (z0F)), ((u20 4), kI c 4 (updZ (updZ (updZ (updZ (z0F) (0) (100)) (1) (100)) (2) (100)) (3) (100))), (q27, .inr (2, [.ref (u31 1)])), ((u31 1), .inr (5, [vI (8), vI (63), .ref (u31 2), vI 0])), ((u31 2), kI c 504 (z0F)), (q38, .inr (5, [vI (30), vI (22), .ref (u46 1), vI 0])), ((u46 1), kI c 660 (z0F)), (q53, .inr (5, [vI (20), vI (6), .ref (u61 1), vI 0])), ((u61 1), kI c 120 (z0F)), (q68, .inr (5, [vI (20), vI (22), .ref (u76 1), vI 0])), ((u76 1), kI c 440 (z0F))]) rfl (ce2 := 16) rfl (sl2 := 1820) rfl ?_
  exact k_vret (pc := 82) hX hR (fun i => ([h0, q5, (u9 1), q16, (u20 1), (u20 2), (u20 3), (u20 4), q27, (u31 1), (u31 2), q38, (u46 1), q53, (u61 1), q68, (u76 1)] : List Nat).getD i 0) rfl rfl rfl dX4_init_82
