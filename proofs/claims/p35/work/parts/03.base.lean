/-! ===== numbers of the machine as whole numbers ===== -/
def iI (z : Int) : Int32 := Int32.ofInt z
def lI (z : Int) : Int64 := Int64.ofInt z
abbrev vI (z : Int) : Value := .int (iI z)
abbrev vL (z : Int) : Value := .long (lI z)
def inI (z : Int) : Prop := -2147483648 ≤ z ∧ z ≤ 2147483647
def inL (z : Int) : Prop := -9223372036854775808 ≤ z ∧ z ≤ 9223372036854775807
theorem inI_mk {z : Int} (a : -2147483648 ≤ z) (b : z ≤ 2147483647) : inI z := ⟨a, b⟩
theorem inL_mk {z : Int} (a : -9223372036854775808 ≤ z) (b : z ≤ 9223372036854775807) : inL z := ⟨a, b⟩
theorem inI_L {z : Int} (h : inI z) : inL z := ⟨by have := h.1; omega, by have := h.2; omega⟩
theorem iI_toInt {z : Int} (h : inI z) : (iI z).toInt = z := Int32.toInt_ofInt_of_le (by have := h.1; omega) (by have := h.2; omega)
theorem lI_toInt {z : Int} (h : inL z) : (lI z).toInt = z := Int64.toInt_ofInt_of_le (by have := h.1; omega) (by have := h.2; omega)
theorem iI_eta (x : Int32) : iI x.toInt = x := Int32.ofInt_toInt x
theorem lI_eta (x : Int64) : lI x.toInt = x := Int64.ofInt_toInt x
theorem inI_of (x : Int32) : inI x.toInt := ⟨by have := x.le_toInt; omega, by have := x.toInt_lt; omega⟩
theorem iI_ex (x : Int32) : ∃ z : Int, x = iI z ∧ inI z := ⟨x.toInt, (iI_eta x).symm, inI_of x⟩
theorem iI_add (a b : Int) : iI a + iI b = iI (a + b) := (Int32.ofInt_add a b).symm
theorem iI_sub (a b : Int) : iI a - iI b = iI (a - b) := (Int32.ofInt_sub a b).symm
theorem iI_mul (a b : Int) : iI a * iI b = iI (a * b) := (Int32.ofInt_mul a b).symm
theorem iI_neg (a : Int) : -iI a = iI (-a) := (Int32.ofInt_neg a).symm
theorem lI_add (a b : Int) : lI a + lI b = lI (a + b) := (Int64.ofInt_add a b).symm
theorem lI_sub (a b : Int) : lI a - lI b = lI (a - b) := (Int64.ofInt_sub a b).symm
theorem lI_mul (a b : Int) : lI a * lI b = lI (a * b) := (Int64.ofInt_mul a b).symm
theorem lI_neg (a : Int) : -lI a = lI (-a) := (Int64.ofInt_neg a).symm
theorem iI_lt {a b : Int} (ha : inI a) (hb : inI b) : iI a < iI b ↔ a < b := by rw [Int32.lt_iff_toInt_lt, iI_toInt ha, iI_toInt hb]
theorem iI_le {a b : Int} (ha : inI a) (hb : inI b) : iI a ≤ iI b ↔ a ≤ b := by rw [Int32.le_iff_toInt_le, iI_toInt ha, iI_toInt hb]
theorem iI_eq {a b : Int} (ha : inI a) (hb : inI b) : iI a = iI b ↔ a = b := by rw [← Int32.toInt_inj, iI_toInt ha, iI_toInt hb]
theorem lI_lt {a b : Int} (ha : inL a) (hb : inL b) : lI a < lI b ↔ a < b := by rw [Int64.lt_iff_toInt_lt, lI_toInt ha, lI_toInt hb]
theorem lI_le {a b : Int} (ha : inL a) (hb : inL b) : lI a ≤ lI b ↔ a ≤ b := by rw [Int64.le_iff_toInt_le, lI_toInt ha, lI_toInt hb]
theorem lI_eq {a b : Int} (ha : inL a) (hb : inL b) : lI a = lI b ↔ a = b := by rw [← Int64.toInt_inj, lI_toInt ha, lI_toInt hb]
theorem iI_div {a b : Int} (ha : inI a) (hb : inI b) : iI a / iI b = iI (a.tdiv b) :=
  (Int32.ofInt_tdiv (show (-2147483648 : Int) ≤ a from ha.1) (show a ≤ (2147483647 : Int) from ha.2) (show (-2147483648 : Int) ≤ b from hb.1) (show b ≤ (2147483647 : Int) from hb.2)).symm
theorem lI_div {a b : Int} (ha : inL a) (hb : inL b) : lI a / lI b = lI (a.tdiv b) :=
  (Int64.ofInt_tdiv (show (-9223372036854775808 : Int) ≤ a from ha.1) (show a ≤ (9223372036854775807 : Int) from ha.2) (show (-9223372036854775808 : Int) ≤ b from hb.1) (show b ≤ (9223372036854775807 : Int) from hb.2)).symm
theorem iI_long {a : Int} (ha : inI a) : (iI a).toInt64 = lI a :=
  Int32.toInt64_ofInt (show (-2147483648 : Int) ≤ a from ha.1) (show a ≤ (2147483647 : Int) from ha.2)
theorem lI_int (a : Int) : (lI a).toInt32 = iI a := Int64.toInt32_ofInt
theorem iI_0 : iI 0 = 0 := rfl
theorem iI_1 : iI 1 = 1 := rfl
theorem inI_0 : inI 0 := ⟨by decide, by decide⟩
theorem iI_b {n : Int} (h : -128 ≤ n ∧ n ≤ 127) : (Int8.ofInt n).toInt32 = iI n := Int8.toInt32_ofInt (show (-128 : Int) ≤ n from h.1) (show n ≤ (127 : Int) from h.2)
theorem iI_s {n : Int} (h : -32768 ≤ n ∧ n ≤ 32767) : (Int16.ofInt n).toInt32 = iI n := Int16.toInt32_ofInt (show (-32768 : Int) ≤ n from h.1) (show n ≤ (32767 : Int) from h.2)
theorem iI_nat {i : Int} (h : inI i) : (iI i).toNatClampNeg = i.toNat := by rw [← Int32.toNat_toInt, iI_toInt h]
theorem iI_vpin {i : Int} {n : Nat} (h0 : 0 ≤ i) (h1 : i < n) (hn : n ≤ 2147483647) : vp_in (iI i) n := by
  have hi : inI i := ⟨by omega, by omega⟩
  intro h
  rcases h with h | h
  · rw [← iI_0, iI_lt hi inI_0] at h; omega
  · rw [iI_nat hi] at h; omega
theorem iI_ofNat (n : Nat) : Int32.ofNat n = iI (n : Int) := Int32.ofInt_eq_ofNat.symm
def updZ {α : Type} (f : Int → α) (i : Int) (x : α) : Int → α := fun j => if j = i then x else f j
theorem updZ_eq {α : Type} (f : Int → α) (i : Int) (x : α) : updZ f i x i = x := if_pos rfl
theorem updZ_ne {α : Type} (f : Int → α) {i j : Int} (x : α) (h : j ≠ i) : updZ f i x j = f j := if_neg h
theorem iI_updZ {f : Int → Int} {i x : Int} (h0 : 0 ≤ i) (h1 : i ≤ 2147483647) : upd (fun j : Nat => iI (f j)) (iI i).toNatClampNeg (iI x) = fun j : Nat => iI (updZ f i x j) := by
  funext j
  rw [iI_nat ⟨by omega, h1⟩]
  unfold upd updZ
  by_cases h : j = i.toNat
  · rw [if_pos h, if_pos (by omega)]
  · rw [if_neg h, if_neg (by omega)]
theorem lI_updZ {f : Int → Int} {i x : Int} (h0 : 0 ≤ i) (h1 : i ≤ 2147483647) : vp_updL (fun j : Nat => lI (f j)) (iI i).toNatClampNeg (lI x) = fun j : Nat => lI (updZ f i x j) := by
  funext j
  rw [iI_nat ⟨by omega, h1⟩]
  unfold vp_updL updZ
  by_cases h : j = i.toNat
  · rw [if_pos h, if_pos (by omega)]
  · rw [if_neg h, if_neg (by omega)]
/-- a truth as a number -/
def bz (b : Bool) : Int := if b = true then 1 else 0
theorem bz_in (b : Bool) : inI (bz b) := by cases b <;> exact ⟨by decide, by decide⟩
/-! ===== the world: N cells, the k-th at the address ad k, holding S k ===== -/
abbrev gW : Type := va_G × (Nat → ClassId) × (Nat → Nat) × Nat × Nat × (Nat → Nat)
abbrev gw_D (w : gW) : va_G := w.1
abbrev gw_c (w : gW) : Nat → ClassId := w.2.1
abbrev gw_ad (w : gW) : Nat → Nat := w.2.2.1
abbrev gw_N (w : gW) : Nat := w.2.2.2.1
abbrev gw_z (w : gW) : Nat := w.2.2.2.2.1
abbrev gw_t (w : gW) : Nat → Nat := w.2.2.2.2.2
def gws (w : gW) (S : Nat → va_E) : va_W := (List.range (gw_N w)).map (fun k => (gw_ad w k, S k))
theorem gws_get {w : gW} {S : Nat → va_E} {k : Nat} (h : k < gw_N w) : (gws w S)[k]? = some (gw_ad w k, S k) := by
  unfold gws
  rw [List.getElem?_map, List.getElem?_range h]
  rfl
theorem gws_at {w : gW} {S : Nat → va_E} {k : Nat} {e : va_E} (h : k < gw_N w) (he : S k = e) : (gws w S)[k]? = some (gw_ad w k, e) := he ▸ gws_get h
theorem gws_len {w : gW} {S : Nat → va_E} : (gws w S).length = gw_N w := by unfold gws; rw [List.length_map, List.length_range]
theorem gws_set {w : gW} {S : Nat → va_E} {k : Nat} (h : k < gw_N w) (e : va_E) : (gws w S).set k (gw_ad w k, e) = gws w (va_up S k e) := by
  apply List.ext_getElem?
  intro j
  by_cases hj : j < gw_N w
  · rw [gws_get hj]
    by_cases hk : j = k
    · subst hk
      rw [List.getElem?_set_self (by rw [gws_len]; exact h)]
      unfold va_up
      rw [if_pos rfl]
    · rw [List.getElem?_set_ne (Ne.symm hk), gws_get hj]
      unfold va_up
      rw [if_neg hk]
  · rw [List.getElem?_eq_none (by rw [List.length_set, gws_len]; omega), List.getElem?_eq_none (by rw [gws_len]; omega)]
def gA (w : gW) : Nat → Prop := fun q => gw_z w ≤ q
abbrev gty (w : gW) : List (ClassId × FieldType) := [(gw_c w 0, .int), (gw_c w 0, .int), (gw_c w 0, .int), (gw_c w 3, .object "ParcelDesk$State")]
theorem gD_any {w : gW} {S S' : Nat → va_E} (h : va_D (gA w) (gws w S)) : va_D (gA w) (gws w S') := by
  have key : ∀ (T T' : Nat → va_E) (k : Nat) (q : Nat × va_E), (gws w T)[k]? = some q → (gws w T')[k]? = some (q.1, T' k) := by
    intro T T' k q hk
    have hl : k < gw_N w := by rw [← gws_len (S := T)]; exact (List.getElem?_eq_some_iff.mp hk).1
    rw [gws_get hl] at hk ⊢
    cases hk
    rfl
  refine ⟨fun i j p q hp hq e => ?_, fun k q hk => ?_⟩
  · exact h.1 i j _ _ (key S' S i p hp) (key S' S j q hq) e
  · exact h.2 k (q.1, S k) (key S' S k q hk)
/-- the cells: arrays and objects, of whole numbers -/
abbrev AI (w : gW) (n : Nat) (f : Int → Int) : va_E := .inl (gw_c w 0, n, .inl (fun j : Nat => iI (f j)))
abbrev AR (w : gW) (n : Nat) (f : Nat → Option Nat) : va_E := .inl (gw_c w 3, n, .inr (.inr (.inr (.inr f))))
/-! ===== statics and constant texts, outside of the world ===== -/
def loS : Nat → Int := fun j => [-20, -20, 1, 1000, 0, 0, 1000, 1].getD j 0
def hiS : Nat → Int := fun j => [20, 20, 100, 70000, 100, 200, 9999, 1000].getD j 0
def lcS : Nat → Int := fun j => [6, 0, 5, 9, 10, 4].getD j 0
def gT1 (w : gW) (n : String) (N : Nat) (f : Nat → Int) (t : Nat) (U : State) (H : Heap) : Prop := va_Z "ParcelDesk" n "[I" (.ref t) (gA w) U H ∧ va_T .int t N (fun j => .int (iI (f j))) (gA w) U H
def gTx (w : gW) (U : State) (H : Heap) : Prop := vk_R "ParcelDesk$RuleReader" 55 "wrvglz" (gw_t w 3) U ∧ vk_R "ParcelDesk$RuleReader" 66 "<=>" (gw_t w 4) U ∧ vk_S 2 [6, 3] [[119, 114, 118, 103, 108, 122], [60, 61, 62]] (fun i => gw_t w (3 + i)) (fun i => gw_t w (5 + i)) (gA w) U H ∧ va_Z "java/lang/String" "COMPACT_STRINGS" "Z" (.int 1) (gA w) U H
def gNM : List (String × Nat × MethodName) := [(RX6, 11, yX4_init), (RX4, 11, yX3_init), (RX4, 20, yX0_init), (RX4, 27, yX2_init), (RX6, 26, yX1_init), (RX0, 24, yX6_isIndex), (RX3, 15, yX6_isIndex), (RX1, 28, yX6_isIndex), (RX4, 64, yX6_volume), (RX4, 74, yX6_dividedUp), (RX4, 94, yX6_addReason), (RX0, 55, yX6_addReason), (RX0, 65, yX6_dividedUp), (RX2, 65, yX6_addReason), (RX4, 107, yX6_wholeSteps), (RX2, 103, yX6_wholeSteps)]
def gNest (U : State) : Prop := (∀ q ∈ gNM, va_Nw (.methodLinkNest q.1 q.2.1 q.2.2 RX6) U) ∧ va_Nw (.fieldLinkNest RX2 94 "ParcelDesk" "LETTER_COLUMNS" "[I" "ParcelDesk") U
theorem gNest.warm {s U : State} (hW : s.WarmedH U.vm) (h : gNest s) : gNest U := ⟨fun q hq => va_Nw.warmM hW (h.1 q hq), va_Nw.warmF hW h.2⟩
theorem gNest.same {u U : State} (hv : U.vm = u.vm) (h : gNest u) : gNest U := ⟨fun q hq => va_Nw.same rfl hv.symm (h.1 q hq), va_Nw.same rfl hv.symm h.2⟩
def gST (w : gW) (U : State) (H : Heap) : Prop := gT1 w "LOWEST_SETTING" 8 loS (gw_t w 0) U H ∧ gT1 w "HIGHEST_SETTING" 8 hiS (gw_t w 1) U H ∧ gT1 w "LETTER_COLUMNS" 6 lcS (gw_t w 2) U H ∧ gTx w U H ∧ gNest U
theorem gT1.kept {w : gW} {n : String} {N : Nat} {f : Nat → Int} {t : Nat} {U : State} {H H1 : Heap} (h : gT1 w n N f t U H) (hq : ∀ a : Nat, a < H.size → ¬ gA w a → H1[a]? = H[a]?) : gT1 w n N f t U H1 := ⟨h.1.kept hq, h.2.kept hq⟩
theorem gT1.moved {w : gW} {n : String} {N : Nat} {f : Nat → Int} {t : Nat} {u U : State} {H : Heap} (hvm : u.vm.Alike U.vm) (h : gT1 w n N f t u H) : gT1 w n N f t U H := ⟨va_Z.moved hvm h.1, va_T.moved hvm h.2⟩
theorem gST.kept {w : gW} {U : State} {H H1 : Heap} (h : gST w U H) (hq : ∀ a : Nat, a < H.size → ¬ gA w a → H1[a]? = H[a]?) : gST w U H1 := by
  obtain ⟨h1, h2, h3, ⟨h4, h5, h6, h7⟩, h8⟩ := h
  exact ⟨h1.kept hq, h2.kept hq, h3.kept hq, ⟨h4, h5, h6.kept hq, h7.kept hq⟩, h8⟩
theorem gST.warm {w : gW} {s U : State} {H : Heap} (hW : s.WarmedH U.vm) (h : gST w s H) : gST w U H := by
  obtain ⟨h1, h2, h3, ⟨h4, h5, h6, h7⟩, h8⟩ := h
  exact ⟨h1.moved hW.alike, h2.moved hW.alike, h3.moved hW.alike, ⟨vk_R.warm hW h4, vk_R.warm hW h5, vk_S.moved hW.alike h6, va_Z.moved hW.alike h7⟩, h8.warm hW⟩
theorem gST.same {w : gW} {u U : State} {H : Heap} (hv : U.vm = u.vm) (h : gST w u H) : gST w U H := by
  have hA : u.vm.Alike U.vm := by rw [hv]; exact Vm.Alike.refl u.vm
  obtain ⟨h1, h2, h3, ⟨h4, h5, h6, h7⟩, h8⟩ := h
  exact ⟨h1.moved hA, h2.moved hA, h3.moved hA, ⟨vk_R.same hv h4, vk_R.same hv h5, vk_S.moved hA h6, va_Z.moved hA h7⟩, h8.same hv⟩
/-! ===== a method's start and end ===== -/
def gPre (w : gW) (S : Nat → va_E) (U : State) : Prop := gw_z w ≤ U.heap.size ∧ va_P (gw_D w) vwCl (gws w S) U.heap ∧ va_K (gw_D w) vwCl (gty w) U ∧ va_D (gA w) (gws w S) ∧ gST w U U.heap
def gQ (w : gW) (K : Option Value → (Nat → va_E) → Prop) : Array Value → State → Outcome → State → Prop := fun _ st oc t => (∃ (v : Option Value) (S' : Nat → va_E), oc = .returned v ∧ K v S' ∧ va_P (gw_D w) vwCl (gws w S') t.heap) ∧ va_F (gA w) st t
def GM (w : gW) (l : Launch) (y : MethodName) (ws : List Cond) (rm : Room) (av : List Value) (S : Nat → va_E) (K : Option Value → (Nat → va_E) → Prop) : Prop := Met l y ws rm (va_Pc av (gPre w S)) (gQ w K) 0 0 (gA w)
def g1 (K : Value → (Nat → va_E) → Prop) : Option Value → (Nat → va_E) → Prop := fun o S' => ∃ x, o = some x ∧ K x S'
def g0 (K : (Nat → va_E) → Prop) : Option Value → (Nat → va_E) → Prop := fun o S' => o = none ∧ K S'
abbrev GM1 (w : gW) (l : Launch) (y : MethodName) (ws : List Cond) (rm : Room) (av : List Value) (S : Nat → va_E) (K : Value → (Nat → va_E) → Prop) : Prop := GM w l y ws rm av S (g1 K)
abbrev GM0 (w : gW) (l : Launch) (y : MethodName) (ws : List Cond) (rm : Room) (av : List Value) (S : Nat → va_E) (K : (Nat → va_E) → Prop) : Prop := GM w l y ws rm av S (g0 K)
theorem gPre.blind {w : gW} {S : Nat → va_E} {av : List Value} : FrameBlind (va_Pc av (gPre w S)) := by
  intro a U g mk h
  obtain ⟨h1, h2, h3, h4, h5, h6⟩ := h
  exact ⟨h1, h2, h3, va_K.moved (u := U) (U := U.calling g mk a) (Vm.Alike.refl U.vm) h4, h5, gST.same (u := U) rfl h6⟩
abbrev gX : Type := Program × Launch × Env × State × MethodId × Array Value × List Frame × Method × Code × Nat × Nat × (State → Prop)
abbrev gx_p (X : gX) : Program := X.1
abbrev gx_l (X : gX) : Launch := X.2.1
abbrev gx_e (X : gX) : Env := X.2.2.1
abbrev gx_s (X : gX) : State := X.2.2.2.1
abbrev gx_m (X : gX) : MethodId := X.2.2.2.2.1
abbrev gx_a (X : gX) : Array Value := X.2.2.2.2.2.1
abbrev gx_b (X : gX) : List Frame := X.2.2.2.2.2.2.1
abbrev gx_h (X : gX) : Method := X.2.2.2.2.2.2.2.1
abbrev gx_c (X : gX) : Code := X.2.2.2.2.2.2.2.2.1
abbrev gx_k (X : gX) : Nat := X.2.2.2.2.2.2.2.2.2.1
abbrev gx_n (X : gX) : Nat := X.2.2.2.2.2.2.2.2.2.2.1
abbrev gx_Q (X : gX) : State → Prop := X.2.2.2.2.2.2.2.2.2.2.2
/-- the machine in a method, at pc, with these locals and operands, over the world S: it comes to its end -/
def G (w : gW) (R : Room) (X : gX) (nL pc : Nat) (lv : List (Nat × Value)) (st : List Value) (S : Nat → va_E) : Prop :=
  ∀ (H : Heap) (locs : List Loc) (ls : Array Slot), va_P (gw_D w) vwCl (gws w S) H → va_S (gA w) (gx_s X).heap H locs → lv_has ls nL lv →
    W (gx_p X) (gx_l X) (gx_e X) R (gx_s X) (gx_m X) (gx_a X) (gx_b X) (gx_h X) (gx_c X) H locs (gx_k X) (gx_n X) (gx_Q X) (F0 (gx_m X) pc ls st)
def gOK (w : gW) (R : Room) (X : gX) (cc : ByteArray) (nL : Nat) (own : String) (Ts : List Cond) : Prop :=
  (gx_p X).tables.exec = Jvm.exec ∧ (gx_c X).code = cc ∧ (gx_c X).maxLocals = nL ∧ (gx_s X).vm.findClass own = some (gx_m X).cls ∧ (∀ q ∈ Ts, q.before (gx_a X) (gx_s X) = true) ∧
  va_K (gw_D w) vwCl (gty w) (gx_s X) ∧ (∀ S, va_D (gA w) (gws w S)) ∧ gw_z w ≤ (gx_s X).heap.size ∧ gST w (gx_s X) (gx_s X).heap ∧ gx_k X ≤ R.cells ∧ gx_n X ≤ R.slots
def gRet (w : gW) (X : gX) (ret : Option FieldType) (K : Option Value → (Nat → va_E) → Prop) : Prop :=
  (gx_h X).sig.returnType = ret ∧ (gx_h X).locks = false ∧ gx_Q X = MQ (gx_b X) (gQ w K) (gx_a X) (gx_s X) (gx_k X) (gx_n X) (gA w)
theorem GM.start {w : gW} {l : Launch} {own n d : String} {ws ws' : List Cond} {fr lo : Nat} {av : List Value} {S : Nat → va_E} {K : Option Value → (Nat → va_E) → Prop} {cc : ByteArray} {maxL : Nat} {ret : Option FieldType}
    (hy : plainName own = true) (hw : ws = Cond.code ⟨own, n, d⟩ cc maxL ret :: ws') (hlen : (lg_sl av).length ≤ maxL)
    (body : ∀ X : gX, gOK w { frames := fr, cells := 0, slots := 0, locals := lo } X cc maxL own ws → gRet w X ret K → gx_l X = l → G w { frames := fr, cells := 0, slots := 0, locals := lo } X maxL 0 (lv_args 0 av) [] S) :
    GM w l ⟨own, n, d⟩ ws { frames := fr, cells := 0, slots := 0, locals := lo } av S K := by
  refine Met.ofW (cc := cc) (maxL := maxL) (ret := ret) hy hw ?_
  intro p e s m args below meth c s₁ B hml hv
  obtain ⟨rfl, hz, hP, hK, hD, hT⟩ := hv
  have hts := atoms_spec (ws := ws) B.pre
  have hown : s.vm.findClass own = some m.cls := findClass_of_methodNamed B.named
  have hl := lv_entry av (n := maxL) hlen
  rw [lg_entry_eq]
  exact body (p, l, e, s, m, av.toArray, below, meth, c, 0, 0, MQ below (gQ w K) av.toArray s 0 0 (gA w)) ⟨B.exec, B.bytes, hml, hown, hts, hK, fun S' => gD_any hD, hz, hT, Nat.le_refl _, Nat.le_refl _⟩ ⟨B.returns, B.notSynchronized, rfl⟩ rfl s.heap [] _ hP va_S.rf hl
