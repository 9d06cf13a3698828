/-! ===== a weaker end; rows of tables as functions of two places; sums ===== -/
theorem GM.mono {w : gW} {l : Launch} {y : MethodName} {ws : List Cond} {rm : Room} {av : List Value} {S : Nat → va_E} {K K' : Option Value → (Nat → va_E) → Prop} (h : GM w l y ws rm av S K) (hk : ∀ v S', K v S' → K' v S') : GM w l y ws rm av S K' := by
  intro p e ha hc hh s m args below hf h1 h2 h3
  obtain ⟨k, o, q1, q2, q3, ⟨⟨⟨v, S', q4, q5, q6⟩, q7⟩, q8⟩⟩ := h p e ha hc hh s m args below hf h1 h2 h3
  exact ⟨k, o, q1, q2, q3, ⟨⟨⟨v, S', q4, hk v S' q5, q6⟩, q7⟩, q8⟩⟩
theorem GM1.mono {w : gW} {l : Launch} {y : MethodName} {ws : List Cond} {rm : Room} {av : List Value} {S : Nat → va_E} {K K' : Value → (Nat → va_E) → Prop} (h : GM1 w l y ws rm av S K) (hk : ∀ v S', K v S' → K' v S') : GM1 w l y ws rm av S K' :=
  GM.mono h (fun _ S' ⟨x, e, q⟩ => ⟨x, e, hk x S' q⟩)
theorem GM0.mono {w : gW} {l : Launch} {y : MethodName} {ws : List Cond} {rm : Room} {av : List Value} {S : Nat → va_E} {K K' : (Nat → va_E) → Prop} (h : GM0 w l y ws rm av S K) (hk : ∀ S', K S' → K' S') : GM0 w l y ws rm av S K' :=
  GM.mono h (fun _ S' ⟨e, q⟩ => ⟨e, hk S' q⟩)
theorem vI_c {a b : Int} (h : a = b) : vI a = vI b := by rw [h]
theorem vL_c {a b : Int} (h : a = b) : vL a = vL b := by rw [h]
theorem vB_t {b : Bool} (h : b = true) : vI (bz true) = vI (bz b) := by rw [h]
theorem vB_f {b : Bool} (h : b = false) : vI (bz false) = vI (bz b) := by rw [h]
theorem dt {P : Prop} [Decidable P] (h : P) : decide P = true := decide_eq_true h
theorem df {P : Prop} [Decidable P] (h : ¬ P) : decide P = false := decide_eq_false h
def fl (wd : Int) (P : Int → Int → Int) : Int → Int := fun j => P (j / wd) (j % wd)
def upd2 (P : Int → Int → Int) (r c x : Int) : Int → Int → Int := fun i j => if i = r ∧ j = c then x else P i j
theorem fl_dm {wd r c : Int} (h0 : 0 ≤ c) (h1 : c < wd) : (r * wd + c) / wd = r ∧ (r * wd + c) % wd = c := by
  have hw : wd ≠ 0 := by omega
  refine ⟨?_, ?_⟩
  · rw [Int.add_comm, Int.add_mul_ediv_right _ _ hw, Int.ediv_eq_zero_of_lt h0 h1, Int.zero_add]
  · rw [Int.add_comm, Int.add_mul_emod_self_right, Int.emod_eq_of_lt h0 h1]
theorem fl_at {wd r c : Int} (P : Int → Int → Int) (h0 : 0 ≤ c) (h1 : c < wd) : fl wd P (r * wd + c) = P r c := by
  unfold fl
  rw [(fl_dm h0 h1).1, (fl_dm h0 h1).2]
theorem fl_upd {wd r c : Int} (P : Int → Int → Int) (x : Int) (h0 : 0 ≤ c) (h1 : c < wd) : updZ (fl wd P) (r * wd + c) x = fl wd (upd2 P r c x) := by
  funext j
  unfold updZ fl upd2
  by_cases h : j = r * wd + c
  · rw [if_pos h, if_pos (by rw [h]; exact fl_dm h0 h1)]
  · rw [if_neg h, if_neg]
    intro ⟨e1, e2⟩
    apply h
    have := Int.mul_ediv_add_emod j wd
    rw [e1, e2, Int.mul_comm] at this
    exact this.symm
theorem fl_copy {wd n : Int} (P Q : Int → Int → Int) (hw : 0 < wd) : (fun j => if j < n * wd then fl wd Q j else fl wd P j) = fl wd (fun i c => if i < n then Q i c else P i c) := by
  funext j
  unfold fl
  by_cases h : j < n * wd
  · rw [if_pos h]
    exact (if_pos ((Int.ediv_lt_iff_lt_mul hw).mpr h)).symm
  · rw [if_neg h]
    exact (if_neg (fun q => h ((Int.ediv_lt_iff_lt_mul hw).mp q))).symm
theorem idx_in {wd rm r c : Int} {n : Nat} (hn : rm * wd ≤ n) (h0 : 0 ≤ r) (h1 : r < rm) (h2 : 0 ≤ c) (h3 : c < wd) : 0 ≤ r * wd + c ∧ r * wd + c < n := by
  have a : 0 ≤ r * wd := Int.mul_nonneg h0 (by omega)
  have b : (r + 1) * wd ≤ rm * wd := Int.mul_le_mul_of_nonneg_right (by omega) (by omega)
  rw [Int.add_mul, Int.one_mul] at b
  omega
/-- the sum of the first n -/
def zsum (f : Int → Int) : Nat → Int
  | 0 => 0
  | n + 1 => zsum f n + f n
theorem zsum_s (f : Int → Int) {i : Int} (h : 0 ≤ i) : zsum f (i + 1).toNat = zsum f i.toNat + f i := by
  have e : (i + 1).toNat = i.toNat + 1 := by omega
  rw [e]
  show zsum f i.toNat + f (i.toNat : Int) = _
  rw [show ((i.toNat : Nat) : Int) = i by omega]
abbrev OT (w : gW) (rm wd : Int) (k1 : Nat) (cn : Int) : va_E := .inr (5, [vI rm, vI wd, .ref (gw_ad w k1), vI cn])
abbrev AT (w : gW) (n : Nat) (wd : Int) (P : Int → Int → Int) : va_E := AI w n (fl wd P)
def tcell (rm wd : Int) (P : Int → Int → Int) (r c : Int) : Int := if 0 ≤ r ∧ r < rm ∧ 0 ≤ c ∧ c < wd then P r c else 0
theorem tcell_in {rm wd : Int} {P : Int → Int → Int} {r c : Int} (h0 : 0 ≤ r) (h1 : r < rm) (h2 : 0 ≤ c) (h3 : c < wd) : tcell rm wd P r c = P r c := if_pos ⟨h0, h1, h2, h3⟩
def tput (rm wd : Int) (P : Int → Int → Int) (r c x : Int) : Int → Int → Int := if 0 ≤ r ∧ r < rm ∧ 0 ≤ c ∧ c < wd then upd2 P r c x else P
theorem tput_in {rm wd : Int} {P : Int → Int → Int} {r c x : Int} (h0 : 0 ≤ r) (h1 : r < rm) (h2 : 0 ≤ c) (h3 : c < wd) : tput rm wd P r c x = upd2 P r c x := if_pos ⟨h0, h1, h2, h3⟩
theorem upd2_eq (P : Int → Int → Int) (r c x : Int) : upd2 P r c x r c = x := if_pos ⟨rfl, rfl⟩
theorem upd2_ne {P : Int → Int → Int} {r c x i j : Int} (h : i ≠ r ∨ j ≠ c) : upd2 P r c x i j = P i j := if_neg (fun q => h.elim (fun z => z q.1) (fun z => z q.2))
theorem inI_upd2 {P : Int → Int → Int} {r c x : Int} (h : ∀ i j, inI (P i j)) (hx : inI x) : ∀ i j, inI (upd2 P r c x i j) := by
  intro i j
  unfold upd2
  by_cases q : i = r ∧ j = c
  · rw [if_pos q]; exact hx
  · rw [if_neg q]; exact h i j
theorem inI_tcell {rm wd : Int} {P : Int → Int → Int} {r c : Int} (h : ∀ i j, inI (P i j)) : inI (tcell rm wd P r c) := by
  unfold tcell
  split
  · exact h r c
  · exact inI_0
theorem tcell_out {rm wd : Int} {P : Int → Int → Int} {r c : Int} (h : ¬ (0 ≤ r ∧ r < rm ∧ 0 ≤ c ∧ c < wd)) : tcell rm wd P r c = 0 := if_neg h
theorem tput_out {rm wd : Int} {P : Int → Int → Int} {r c x : Int} (h : ¬ (0 ≤ r ∧ r < rm ∧ 0 ≤ c ∧ c < wd)) : tput rm wd P r c x = P := if_neg h
theorem AI_congr (w : gW) (n : Nat) {f g : Int → Int} (h : ∀ j : Int, 0 ≤ j → f j = g j) : AI w n f = AI w n g := by
  have e : (fun j : Nat => iI (f j)) = fun j : Nat => iI (g j) := by
    funext j
    rw [h j (Int.natCast_nonneg j)]
  show (Sum.inl (gw_c w 0, n, Sum.inl (fun j : Nat => iI (f j))) : va_E) = _
  rw [e]
theorem AT_congr (w : gW) (n : Nat) {wd : Int} {P Q : Int → Int → Int} (hw : 0 < wd) (h : ∀ i j : Int, 0 ≤ i → 0 ≤ j → j < wd → P i j = Q i j) : AT w n wd P = AT w n wd Q :=
  AI_congr w n (fun j hj => h _ _ (Int.ediv_nonneg hj (Int.le_of_lt hw)) (Int.emod_nonneg j (by omega)) (Int.emod_lt_of_pos j hw))
def crow (row : Int) (g : Int → Int) (c : Int) (P : Int → Int → Int) : Int → Int → Int := fun i j => if i = row ∧ j < c then g j else P i j
theorem crow_step {rm wd row c : Int} {g : Int → Int} {P : Int → Int → Int} (h0 : 0 ≤ row) (h1 : row < rm) (h2 : 0 ≤ c) (h3 : c < wd) : tput rm wd (crow row g c P) row c (g c) = crow row g (c + 1) P := by
  rw [tput_in h0 h1 h2 h3]
  funext i j
  unfold upd2 crow
  by_cases h : i = row ∧ j = c
  · rw [if_pos h, if_pos ⟨h.1, by omega⟩, h.2]
  · rw [if_neg h]
    by_cases h4 : i = row ∧ j < c
    · rw [if_pos h4, if_pos ⟨h4.1, by omega⟩]
    · rw [if_neg h4, if_neg (fun q => by
        rcases Int.lt_or_eq_of_le (Int.le_of_lt_add_one q.2) with z | z
        · exact h4 ⟨q.1, z⟩
        · exact h ⟨q.1, z⟩)]
theorem ixor_ex {x y : Int} (hx : inI x) (hy : inI y) (h0 : 0 ≤ y) : ∃ z, iI x ^^^ iI y = iI z ∧ inI z ∧ (0 ≤ z ↔ 0 ≤ x) := by
  refine ⟨(iI x ^^^ iI y).toInt, (iI_eta _).symm, inI_of _, ?_⟩
  have key : ∀ u : Int32, (0 ≤ u.toInt ↔ u.toBitVec.msb = false) := fun u => by
    rw [BitVec.msb_eq_toInt, decide_eq_false_iff_not, Int.not_lt]
    exact Iff.rfl
  rw [key, Int32.toBitVec_xor, BitVec.msb_xor]
  have e1 : (iI y).toBitVec.msb = false := (key _).mp (by rw [iI_toInt hy]; exact h0)
  rw [e1, Bool.xor_false, ← key, iI_toInt hx]
theorem tdiv_mul_b {x y : Int} (hx : x < 0) (hy : 0 < y) : x ≤ x.tdiv y * y ∧ x.tdiv y * y ≤ 0 := by
  have h1 := Int.tmod_def x y
  have h2 : x.tmod y ≤ 0 := by
    have := Int.tmod_nonneg (a := -x) y (by omega)
    rw [Int.neg_tmod] at this
    omega
  have h3 := Int.neg_lt_of_neg_lt (show -(x.tmod y) < y by rw [← Int.neg_tmod]; exact Int.tmod_lt_of_pos _ hy)
  rw [Int.mul_comm] at h1
  have h4 : x.tdiv y ≤ 0 := by
    have h5 : 0 ≤ (-x).tdiv y := Int.tdiv_nonneg (by omega) (by omega)
    rw [Int.neg_tdiv] at h5
    omega
  have h6 : x.tdiv y * y ≤ 0 := by
    have := Int.mul_le_mul_of_nonneg_right h4 (Int.le_of_lt hy)
    rw [Int.zero_mul] at this
    exact this
  omega
theorem fdiv_a {x y : Int} (hx : 0 ≤ x) : x.tdiv y = x / y := Int.tdiv_eq_ediv_of_nonneg hx
theorem fdiv_b {x y : Int} (hy : 0 < y) (h : x.tdiv y * y = x) : x.tdiv y = x / y := by
  have h2 : (x.tdiv y * y) / y = x.tdiv y := Int.mul_ediv_cancel _ (by omega)
  rw [h] at h2
  exact h2.symm
theorem fdiv_c {x y : Int} (hx : x < 0) (hy : 0 < y) (h : ¬ x.tdiv y * y = x) : x.tdiv y - 1 = x / y := by
  have h1 := Int.tdiv_eq_ediv (a := x) (b := y)
  rw [if_neg (by
    rintro (q | q)
    · omega
    · apply h
      rw [Int.tdiv_mul_cancel q]), Int.sign_eq_one_of_pos hy] at h1
  omega
theorem tdiv_in {x y : Int} (hx : inI x) (hy : 0 < y) : inI (x.tdiv y) := by
  rcases Int.lt_or_le x 0 with h | h
  · have a := fdiv_c (x := x) (y := y) h hy
    have b := tdiv_mul_b h hy
    have h4 : x.tdiv y ≤ 0 := by
      have h5 : 0 ≤ (-x).tdiv y := Int.tdiv_nonneg (by omega) (by omega)
      rw [Int.neg_tdiv] at h5
      omega
    have h6 : x.tdiv y * y ≤ x.tdiv y * 1 := Int.mul_le_mul_of_nonpos_left h4 (by omega)
    have := hx.1
    exact ⟨by omega, by omega⟩
  · have h1 : 0 ≤ x.tdiv y := Int.tdiv_nonneg h (by omega)
    have h2 : x.tdiv y ≤ x := Int.tdiv_le_self _ h
    have := hx.2
    exact ⟨by omega, by omega⟩
/-! ===== a method of the JDK ===== -/
theorem gm_ofWF {l : Launch} {y : MethodName} {ws ws' : List Cond} {rm : Room} {Pc : Array Value → State → Prop} {Qc : Array Value → State → Outcome → State → Prop} {mc ms : Nat} {free : Addr → Prop} {cc : ByteArray} {maxL : Nat} {ret : Option FieldType}
    (hy : plainFor y = true) (hw : ws = Cond.code y cc maxL ret :: ws')
    (body : ∀ p e s m args below meth c s₁, BodyLoose p l y (headSpec ws rm) cc maxL ret e s m args below meth c s₁ → c.maxLocals = maxL → Pc args s →
      W p l e (headSpec ws rm).room s m args below meth c s.heap [] 0 0 (MQ below Qc args s mc ms free) (entryFrame m args maxL)) : Met l y ws rm Pc Qc mc ms free := by
  refine MetFree.of_bodySF (code := cc) (maxLocals := maxL) (ret := ret) hy ?_ ?_
  · intro args s m h hn
    obtain ⟨meth, c, h1, h2, h3, h4, h5, h6, -, -⟩ := Cond.code_spec hn (atoms_spec (ws := ws) h _ (by rw [hw]; exact List.mem_cons_self))
    exact ⟨meth, c, h1, h2, h3, h4, h5, h6⟩
  · intro p e s m args below meth c s₁ B hml hP _
    have hh0 : s₁.heap = s.heap := by rw [B.state]; rfl
    obtain ⟨t, a1, o, b1, b2, b3⟩ := body p e s m args below meth c s₁ B hml hP s₁ hh0 (Stand.of_body B)
    exact ⟨t, o, a1, b1, b2, ⟨b3.1, b3.2⟩⟩
theorem GM.startJ {w : gW} {l : Launch} {own n d : String} {ws ws' : List Cond} {fr lo : Nat} {av : List Value} {S : Nat → va_E} {K : Option Value → (Nat → va_E) → Prop} {cc : ByteArray} {maxL : Nat} {ret : Option FieldType}
    (hy : plainFor ⟨own, n, d⟩ = true) (hw : ws = Cond.code ⟨own, n, d⟩ cc maxL ret :: ws') (hlen : (lg_sl av).length ≤ maxL)
    (body : ∀ X : gX, gOK w { frames := fr, cells := 0, slots := 0, locals := lo } X cc maxL own ws → gRet w X ret K → gx_l X = l → G w { frames := fr, cells := 0, slots := 0, locals := lo } X maxL 0 (lv_args 0 av) [] S) :
    GM w l ⟨own, n, d⟩ ws { frames := fr, cells := 0, slots := 0, locals := lo } av S K := by
  refine gm_ofWF (cc := cc) (maxL := maxL) (ret := ret) hy hw ?_
  intro p e s m args below meth c s₁ B hml hv
  obtain ⟨rfl, hz, hP, hK, hD, hT⟩ := hv
  have hts := atoms_spec (ws := ws) B.pre
  have hown : s.vm.findClass own = some m.cls := findClass_of_methodNamed B.named
  have hl := lv_entry av (n := maxL) hlen
  rw [lg_entry_eq]
  exact body (p, l, e, s, m, av.toArray, below, meth, c, 0, 0, MQ below (gQ w K) av.toArray s 0 0 (gA w)) ⟨B.exec, B.bytes, hml, hown, hts, hK, fun S' => gD_any hD, hz, hT, Nat.le_refl _, Nat.le_refl _⟩ ⟨B.returns, B.notSynchronized, rfl⟩ rfl s.heap [] _ hP va_S.rf hl
