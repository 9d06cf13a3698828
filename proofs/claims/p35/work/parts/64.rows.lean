/-! ===== p35: rows for the law's own methods ===== -/
theorem fl_self {x : UInt32} (h : vf_n32 x) : FP.fcmp x x = some .eq := by
  have h1 : FP.Core.fIsNaN x = false := by
    unfold vf_n32 at h
    rw [UInt32.le_iff_toNat_le, FP.Core.mask_toNat32] at h
    cases hq : FP.Core.fIsNaN x
    · rfl
    · exact absurd ((FP.Core.isNaN_bits32 x).mp hq) (Nat.not_lt.mpr h)
  exact FP.Core.fcmp_self ((FP.Core.notNaN_iff32 _).mp h1)
theorem n32_one : vf_n32 3212836864 := by unfold vf_n32; decide
def shrZ (a b : Int) : Int := (iI a >>> (iI b &&& 31)).toInt
def andZ (a b : Int) : Int := (iI a &&& iI b).toInt
theorem shrZ_in (a b : Int) : inI (shrZ a b) := inI_of _
theorem andZ_in (a b : Int) : inI (andZ a b) := inI_of _
theorem and_b (x : Int32) : ∃ z : Int, x &&& iI 2147483647 = iI z ∧ 0 ≤ z ∧ z ≤ 2147483647 := by
  refine ⟨((x.toBitVec &&& 2147483647#32).toNat : Int), ?_, by omega, ?_⟩
  · apply Int32.toBitVec_inj.mp
    show x.toBitVec &&& (iI 2147483647).toBitVec = (iI ((x.toBitVec &&& 2147483647#32).toNat : Int)).toBitVec
    have e : (iI 2147483647).toBitVec = 2147483647#32 := by decide
    rw [e]
    show _ = BitVec.ofInt 32 _
    rw [BitVec.ofInt_natCast, BitVec.ofNat_toNat, BitVec.setWidth_eq]
  · have h : (x.toBitVec &&& 2147483647#32).toNat ≤ 2147483647 := by
      rw [BitVec.toNat_and]
      exact Nat.and_le_right
    omega
theorem andZ_b (x : Int) : 0 ≤ andZ x 2147483647 ∧ andZ x 2147483647 ≤ 2147483647 := by
  obtain ⟨z, e, z0, z1⟩ := and_b (iI x)
  unfold andZ
  rw [e, iI_toInt ⟨by omega, z1⟩]
  exact ⟨z0, z1⟩
/-- up(): of the law's ints the lower 31 bits, modulo m -/
def upZ (x m : Int) : Int := (andZ x 2147483647).tmod m
theorem upZ_b (x : Int) {m : Int} (hm : 1 ≤ m) : 0 ≤ upZ x m ∧ upZ x m < m := by
  have h := andZ_b x
  unfold upZ
  rw [Int.tmod_eq_emod_of_nonneg h.1]
  exact ⟨Int.emod_nonneg _ (by omega), Int.emod_lt_of_pos _ (by omega)⟩
section G64
variable {w : gW} {R : Room} {X : gX} {nL pc : Nat} {cc : ByteArray} {own : String} {Ts : List Cond} {lv : List (Nat × Value)} {st : List Value} {S : Nat → va_E}
theorem g_ishr (hX : gOK w R X cc nL own Ts) {a b : Int} (hdg : decode cc pc = .ok (.ishr, 1)) (k : G w R X nL (pc + 1) lv (vI (shrZ a b) :: st) S) : G w R X nL pc lv (vI b :: vI a :: st) S := by
  intro H locs ls hP hS hl
  refine lv_ishr hX.1 hX.2.1 hdg ?_
  have e : iI a >>> (iI b &&& 31) = iI (shrZ a b) := (iI_eta _).symm
  rw [e]
  exact k H locs ls hP hS hl
theorem g_iandZ (hX : gOK w R X cc nL own Ts) {a b : Int} (hdg : decode cc pc = .ok (.iand, 1)) (k : G w R X nL (pc + 1) lv (vI (andZ a b) :: st) S) : G w R X nL pc lv (vI b :: vI a :: st) S :=
  g_iand hX (show iI a &&& iI b = iI (andZ a b) from (iI_eta _).symm) hdg k
theorem lg_cmp_self (x : Int64) : lg_cmp x x = iI 0 := by
  unfold lg_cmp
  rw [if_neg (fun h => absurd (Int64.lt_iff_toInt_lt.mp h) (Int.lt_irrefl _)), if_pos rfl]
  rfl
theorem g_lcmp_same (hX : gOK w R X cc nL own Ts) {off : Int} {tgt : Nat} {a b : Int} (hab : a = b) (hdg : decode cc pc = .ok (.lcmp, 1)) (hdg2 : decode cc (pc + 1) = .ok (.ifCond .ne off, 3)) (ht : (pc : Int) + 1 + off = (tgt : Int)) (k : G w R X nL (pc + 4) lv st S) : G w R X nL pc lv (vL b :: vL a :: st) S := by
  intro H locs ls hP hS hl
  subst hab
  refine W.lcmp hX.1 hX.2.1 hdg ?_
  rw [lg_cmp_self]
  exact g_if_ne (pc := pc + 1) (tgt := tgt) hX inI_0 hdg2 (by omega) (fun h => absurd rfl h) (fun _ => k) H locs ls hP hS hl
theorem g_fcmp_self (hX : gOK w R X cc nL own Ts) {x : UInt32} (hx : vf_n32 x) {op : CmpOp} (hdg : decode cc pc = .ok (.fcmp op, 1)) (k : G w R X nL (pc + 1) lv (vI 0 :: st) S) : G w R X nL pc lv (.float x :: .float x :: st) S := by
  intro H locs ls hP hS hl
  refine lv_fcmp hX.1 hX.2.1 hdg ?_
  rw [fl_self hx]
  exact k H locs ls hP hS hl
theorem g_fstore (hX : gOK w R X cc nL own Ts) {i : Nat} {x : UInt32} {lv2 : List (Nat × Value)} (hn : i < nL) (hl2 : (i, Value.float x) :: lv.filter (fun q => !(q.1 == i) && !(q.1 + 1 == i && q.2.category == 2)) = lv2) (hdg : decode cc pc = .ok (.fstore i, 2)) (k : G w R X nL (pc + 2) lv2 st S) : G w R X nL pc lv (.float x :: st) S := by
  intro H locs ls hP hS hl
  exact lv_fstore hX.1 hX.2.1 hdg hl hn hl2 (fun ls2 hl3 => k H locs ls2 hP hS hl3)
theorem g_fload (hX : gOK w R X cc nL own Ts) {i : Nat} {x : UInt32} (j : Nat) (hj : lv[j]? = some (i, .float x)) (hdg : decode cc pc = .ok (.fload i, 2)) (k : G w R X nL (pc + 2) lv (.float x :: st) S) : G w R X nL pc lv st S := by
  intro H locs ls hP hS hl
  exact lv_fload hX.1 hX.2.1 hdg (lv_at hl j hj) (k H locs ls hP hS hl)
/-- the law's script, b the address, L ints -/
def scrT (w : gW) (X : gX) (b L : Nat) (f : Nat → Int) : Prop := va_T .int b L (fun j => .int (iI (f j))) (gA w) (gx_s X) (gx_s X).heap
theorem g_scald (hX : gOK w R X cc nL own Ts) {b L : Nat} {f : Nat → Int} (hT : scrT w X b L f) {i : Int} (h0 : 0 ≤ i) (h1 : i < L) (hn : L ≤ 2147483647) (hdg : decode cc pc = .ok (.iaload, 1))
    (k : G w R X nL (pc + 1) lv (vI (f i.toNat) :: st) S) : G w R X nL pc lv (vI i :: .ref b :: st) S := by
  intro H locs ls hP hS hl
  exact va_ti hX.1 hX.2.1 hT hS (iI_vpin h0 h1 hn) (by rw [iI_nat ⟨by omega, by omega⟩]) hdg (k H locs ls hP hS hl)
theorem g_sclen (hX : gOK w R X cc nL own Ts) {b L : Nat} {f : Nat → Int} (hT : scrT w X b L f) (hdg : decode cc pc = .ok (.arraylength, 1))
    (k : G w R X nL (pc + 1) lv (vI (L : Int) :: st) S) : G w R X nL pc lv (.ref b :: st) S := by
  intro H locs ls hP hS hl
  exact va_tlen hX.1 hX.2.1 hT hS (iI_ofNat L) hdg (k H locs ls hP hS hl)
end G64
/-! what is known of a state -/
theorem sizeZ_0 (x : Int) : 0 ≤ sizeZ x := by unfold sizeZ; split <;> omega
theorem AD.b {w : gW} {ty pl dg : Int} {D : SD} {S : Nat → va_E} (h : AD w ty pl dg D S) : ((0 ≤ snP D ∧ snP D ≤ 30) ∧ (0 ≤ snN D ∧ snN D ≤ 20) ∧ (0 ≤ snR D ∧ snR D ≤ 8)) ∧ (((-20 ≤ sF D 0 ∧ sF D 0 ≤ 20) ∧ (-20 ≤ sF D 1 ∧ sF D 1 ≤ 20) ∧ (1 ≤ sF D 2 ∧ sF D 2 ≤ 100) ∧ (1000 ≤ sF D 3 ∧ sF D 3 ≤ 70000)) ∧ ((0 ≤ sF D 4 ∧ sF D 4 ≤ 100) ∧ (0 ≤ sF D 5 ∧ sF D 5 ≤ 200) ∧ (1000 ≤ sF D 6 ∧ sF D 6 ≤ 9999) ∧ (1 ≤ sF D 7 ∧ sF D 7 ≤ 1000))) ∧ ((0 ≤ sG D 0 ∧ sG D 0 ≤ 100000) ∧ (0 ≤ sG D 1 ∧ sG D 1 ≤ 100000) ∧ (-2200000 ≤ sG D 2 ∧ sG D 2 ≤ 2200000) ∧ (0 ≤ sG D 3 ∧ sG D 3 ≤ 100000) ∧ (0 ≤ sG D 5 ∧ sG D 5 ≤ 2)) ∧ ((-2000000 ≤ scRaw (sF D) (sG D) ∧ scRaw (sF D) (sG D) ≤ 2200000) ∧ (2 * scGross (sF D) (sG D) ≤ 2 * (scRaw (sF D) (sG D) - sG D 2) + sF D 2 ∧ 2 * (scRaw (sF D) (sG D) - sG D 2) - sF D 2 < 2 * scGross (sF D) (sG D))) := by
  have o := h.ok.1
  have r := scRaw_b o.1.1.1 o.1.1.2
  have g := scGross_b o.1.1.1 o.1.1.2
  have gg : 0 ≤ sG D 1 ∧ sG D 1 ≤ 100000 := o.1.1.2.1.2.1
  exact ⟨⟨o.2.1.1, o.2.2.1.1, o.1.2.2.1.1⟩, o.1.1.1, ⟨o.1.1.2.1.1, gg, o.1.1.2.1.2.2.1, ⟨o.2.2.2.2.1, o.2.2.2.2.2.1⟩, ⟨o.1.1.2.2.1.2.1.1, o.2.2.2.2.2.2⟩⟩, ⟨by omega, by omega⟩, g⟩
theorem AD.gro {w : gW} {ty pl dg : Int} {D : SD} {S : Nat → va_E} (h : AD w ty pl dg D S) : (scGross (sF D) (sG D)).tmod (sF D 2) = 0 ∧ 2 * sizeZ (scGross (sF D) (sG D) - (scRaw (sF D) (sG D) - sG D 2)) ≤ sF D 2 ∧ 2 * ((scRaw (sF D) (sG D) - sG D 2) - scGross (sF D) (sG D)) ≠ sF D 2 := gro_v h.ok.1.1.1.1 h.ok.1.1.1.2
theorem AD.row {w : gW} {ty pl dg : Int} {D : SD} {S : Nat → va_E} (h : AD w ty pl dg D S) {p : Int} (p0 : 0 ≤ p) (p1 : p < snP D) : (1 ≤ sP D p 0 ∧ sP D p 0 ≤ 100000) ∧ (1 ≤ sP D p 1 ∧ sP D p 1 ≤ 2000) ∧ (1 ≤ sP D p 2 ∧ sP D p 2 ≤ 2000) ∧ (1 ≤ sP D p 3 ∧ sP D p 3 ≤ 2000) ∧ (0 ≤ sP D p 4 ∧ sP D p 4 < 4) ∧ (0 ≤ sP D p 5 ∧ sP D p 5 ≤ 8000000) ∧ (0 ≤ sP D p 6 ∧ sP D p 6 ≤ 8001000) ∧ (0 ≤ sP D p 7 ∧ sP D p 7 ≤ 1000000000) ∧ (0 ≤ sP D p 8 ∧ sP D p 8 ≤ 1000000000) ∧ (2 ≤ sP D p 11 ∧ sP D p 11 ≤ 10) := h.ok.1.2.1.2.2 p p0 p1
theorem AD.rw {w : gW} {ty pl dg : Int} {D : SD} {S : Nat → va_E} (h : AD w ty pl dg D S) {p : Int} (p0 : 0 ≤ p) (p1 : p < snP D) : sP D p 9 = girZ (sP D p 1) (sP D p 2) (sP D p 3) ∧ (sP D p 0 ≤ sP D p 6 ∧ sP D p 5 ≤ sP D p 6) ∧ sP D p 12 = wrZ (sP D p 0) (sP D p 5) ∧ ((10 ≤ sP D p 13 ∧ sP D p 13 < 16) ∨ sP D p 13 = 20) ∧ ((∀ i, 2 ≤ i → i < sP D p 11 → 30 ≤ sP D p (12 + i) ∧ sP D p (12 + i) ≤ 37) ∧ ∀ i, 2 ≤ i → i + 1 < sP D p 11 → sP D p (12 + i) < sP D p (12 + (i + 1))) ∧ (sP D p 11 = 2 → sP D p 8 = sP D p 7) := by
  obtain ⟨h1, h2, h3, h4, ⟨-, h5, h6⟩, h7⟩ := h.ok.2.2.1 p p0 p1
  exact ⟨h1, h2, h3, h4, ⟨h5, h6⟩, h7⟩
theorem AD.nt {w : gW} {ty pl dg : Int} {D : SD} {S : Nat → va_E} (h : AD w ty pl dg D S) {n : Int} (n0 : 0 ≤ n) (n1 : n < snN D) : (0 ≤ sN D n 0 ∧ sN D n 0 < snP D) ∧ (0 ≤ sN D n 1 ∧ sN D n 1 ≤ 3) ∧ (1 ≤ sN D n 2 ∧ sN D n 2 ≤ 100000) ∧ (0 ≤ sN D n 3 ∧ sN D n 3 ≤ 1000000000) ∧ (0 ≤ sN D n 4 ∧ sN D n 4 ≤ 2) ∧ (-1000000000 ≤ sN D n 5 ∧ sN D n 5 ≤ 1000000000) ∧ (sN D n 4 ≠ 1 → sN D n 5 = 0) ∧ (sN D n 4 = 0 → openZ D (sN D n 0) = n) := by
  obtain ⟨a, b, c, d, e, f⟩ := h.ok.1.2.2.1.2.2 n n0 n1
  have k := (h.ok.2.2.2.1 n n0 n1).2.2
  exact ⟨a, b, ⟨c.1, by have := c.2; split at this <;> omega⟩, d, e, f, k, fun o => openZ_open h.ok ⟨n0, n1⟩ o⟩
theorem AD.op {w : gW} {ty pl dg : Int} {D : SD} {S : Nat → va_E} (h : AD w ty pl dg D S) (p : Int) : openZ D p = -1000009 ∨ (0 ≤ openZ D p ∧ openZ D p < snN D ∧ sN D (openZ D p) 0 = p ∧ sN D (openZ D p) 4 = 0) := (openZ_spec h.ok.1.2.2.1.1 p).elim (fun q => Or.inl q.1) Or.inr
theorem AD.sum {w : gW} {ty pl dg : Int} {D : SD} {S : Nat → va_E} (h : AD w ty pl dg D S) : sumZ D 0 = zsum (fun r => sP D r 8) (snP D).toNat ∧ sumZ D 1 = zsum (fun r => sN D r 5) (snN D).toNat ∧ sumZ D 2 = zsum (fun r => sP D r 0) (snP D).toNat ∧ sumZ D 3 = zsum (fun r => sP D r 6) (snP D).toNat ∧ sumZ D 4 = zsum (fun r => if sP D r 12 = 2 then 1 else 0) (snP D).toNat := by
  have hP := h.ok.1.2.1.1
  have hN := h.ok.1.2.2.1.1
  have k : ∀ (c r : Int), (0 ≤ c ∧ c < 22) → 0 ≤ r → r < ((snP D).toNat : Int) → tcell 30 22 (sP D) r c = sP D r c := fun c r hc a b => tcell_in a (by omega) hc.1 hc.2
  refine ⟨?_, ?_, ?_, ?_, ?_⟩ <;> unfold sumZ
  · rw [if_pos rfl]
    exact zsum_c _ (fun r a b => k 8 r (by decide) a b)
  · rw [if_neg (by decide), if_pos rfl]
    exact zsum_c _ (fun r a b => tcell_in a (by omega) (by decide) (by decide))
  · rw [if_neg (by decide), if_neg (by decide), if_pos rfl]
    exact zsum_c _ (fun r a b => k 0 r (by decide) a b)
  · rw [if_neg (by decide), if_neg (by decide), if_neg (by decide), if_pos rfl]
    exact zsum_c _ (fun r a b => k 6 r (by decide) a b)
  · rw [if_neg (by decide), if_neg (by decide), if_neg (by decide), if_neg (by decide)]
    exact zsum_c _ (fun r a b => by
      show (if tcell 30 22 (sP D) r 12 = 2 then (1 : Int) else 0) = (if sP D r 12 = 2 then 1 else 0)
      rw [k 12 r (by decide) a b])
theorem zsum_bd {f : Int → Int} : ∀ n : Nat, (∀ i : Int, 0 ≤ i → i < n → -1000000000 ≤ f i ∧ f i ≤ 1000000000) → -(1000000000 * (n : Int)) ≤ zsum f n ∧ zsum f n ≤ 1000000000 * (n : Int)
  | 0, _ => by show -(1000000000 * ((0 : Nat) : Int)) ≤ (0 : Int) ∧ (0 : Int) ≤ 1000000000 * ((0 : Nat) : Int); decide
  | n + 1, h => by
    have h1 := zsum_bd n (fun i a b => h i a (by omega))
    have h2 := h n (by omega) (by omega)
    show -(1000000000 * ((n + 1 : Nat) : Int)) ≤ zsum f n + f n ∧ zsum f n + f n ≤ 1000000000 * ((n + 1 : Nat) : Int)
    omega
theorem rw5_in {m a b c z : Int} (hm : inI m) (ha : inI a) (hb : inI b) (hc : inI c) (hz : inI z) : ∀ i j, inI (rw5 m a b c z i j) := fun i j => by
  unfold rw5
  split
  · exact hm
  · split
    · exact ha
    · split
      · exact hb
      · split
        · exact hc
        · exact hz
theorem prW_b {D : SD} (h : ok35 D) {m a b c z : Int} (hm : 1 ≤ m ∧ m ≤ 100000) (ha : 1 ≤ a ∧ a ≤ 2000) (hb : 1 ≤ b ∧ b ≤ 2000) (hc : 1 ≤ c ∧ c ≤ 2000) (hz : 0 ≤ z ∧ z ≤ 3) (hC : 0 < sC D z) : 0 ≤ prW D m a b c z ∧ prW D m a b c z ≤ 1000000000 :=
  (prD_v h.1.1 (show rowIn D (rw5 m a b c z) 0 from ⟨(⟨by omega, by omega⟩ : 0 ≤ m ∧ m ≤ 200000), ha, hb, hc, (⟨hz.1, by omega⟩ : 0 ≤ z ∧ z < 4), (by omega : 1 ≤ sC D z), rw5_in ⟨by omega, by omega⟩ ⟨by omega, by omega⟩ ⟨by omega, by omega⟩ ⟨by omega, by omega⟩ ⟨by omega, by omega⟩⟩)).2.2.2.2.1
theorem AD.lim {w : gW} {ty pl dg : Int} {D : SD} {S : Nat → va_E} (h : AD w ty pl dg D S) {z : Int} (z0 : 0 ≤ z) (z3 : z ≤ 3) (hc : 0 < sC D z) : 1 ≤ sL D z 0 ∧ sL D z 0 ≤ 100000 := ((h.ok.1.1.2.1.2.2.2 z z0 (by omega)).2 0 (by decide) hc).1
theorem AD.cnt {w : gW} {ty pl dg : Int} {D : SD} {S : Nat → va_E} (h : AD w ty pl dg D S) {z : Int} (z0 : 0 ≤ z) (z3 : z ≤ 3) : 0 ≤ sC D z ∧ sC D z ≤ 6 := h.ok.1.1.2.1.1 z z0 (by omega)
theorem AD.set {w : gW} {ty pl dg : Int} {D : SD} {S : Nat → va_E} (h : AD w ty pl dg D S) {i : Int} (i0 : 0 ≤ i) (i8 : i < 8) : -100000 ≤ sF D i ∧ sF D i ≤ 100000 := by
  have hb := h.b
  rcases (show i = 0 ∨ i = 1 ∨ i = 2 ∨ i = 3 ∨ i = 4 ∨ i = 5 ∨ i = 6 ∨ i = 7 by omega) with e | e | e | e | e | e | e | e <;> rw [e] <;> omega
theorem so_01 {i x : Int} (i0 : 0 ≤ i) (i2 : i < 2) (x0 : -20 ≤ x) (x1 : x ≤ 20) : setOK i x := by
  rcases (show i = 0 ∨ i = 1 by omega) with e | e <;> rw [e] <;> exact ⟨by decide, x0, x1⟩
theorem so_2 {i x : Int} (h : i = 2) (x0 : 1 ≤ x) (x1 : x ≤ 100) : setOK i x := by rw [h]; exact ⟨by decide, x0, x1⟩
theorem so_3 {i x : Int} (h : i = 3) (x0 : 1000 ≤ x) (x1 : x ≤ 70000) : setOK i x := by rw [h]; exact ⟨by decide, x0, x1⟩
theorem so_4 {i x : Int} (h : i = 4) (x0 : 0 ≤ x) (x1 : x ≤ 100) : setOK i x := by rw [h]; exact ⟨by decide, x0, x1⟩
theorem so_5 {i x : Int} (h : i = 5) (x0 : 0 ≤ x) (x1 : x ≤ 200) : setOK i x := by rw [h]; exact ⟨by decide, x0, x1⟩
theorem so_6 {i x : Int} (h : i = 6) (x0 : 1000 ≤ x) (x1 : x ≤ 9999) : setOK i x := by rw [h]; exact ⟨by decide, x0, x1⟩
theorem so_7 {i x : Int} (h : i = 7) (x0 : 1 ≤ x) (x1 : x ≤ 1000) : setOK i x := by rw [h]; exact ⟨by decide, x0, x1⟩
theorem zabs_size (a : Int) : zabs a = sizeZ a := by
  unfold zabs sizeZ
  split <;> split <;> omega
