/-! ===== the law: rows for the script and for doubles ===== -/
theorem fl_f2d {x : UInt32} (h : vf_n32 x) : vf_n64 (FP.f2d x) ∧ FP.dcmp (FP.f2d x) (FP.f2d x) = some .eq := by
  have h1 : FP.Core.fIsNaN x = false := by
    unfold vf_n32 at h
    rw [UInt32.le_iff_toNat_le, FP.Core.mask_toNat32] at h
    cases hq : FP.Core.fIsNaN x
    · rfl
    · exact absurd ((FP.Core.isNaN_bits32 x).mp hq) (Nat.not_lt.mpr h)
  have h2 : FP.Core.dIsNaN (FP.f2d x) = false := (FP.f2d_nan x).trans h1
  refine ⟨?_, FP.Core.dcmp_self ((FP.Core.notNaN_iff _).mp h2)⟩
  unfold vf_n64
  rw [UInt64.le_iff_toNat_le, FP.Core.mask_toNat]
  have h3 : ¬ (9218868437227405312 < (FP.f2d x).toNat % 2 ^ 63) := fun hq => by
    rw [(FP.Core.isNaN_bits _).mpr hq] at h2
    cases h2
  exact Nat.not_lt.mp h3
section GLaw
variable {w : gW} {R : Room} {X : gX} {nL pc : Nat} {cc : ByteArray} {own : String} {Ts : List Cond} {lv : List (Nat × Value)} {st : List Value} {S : Nat → va_E}
def scrT (w : gW) (X : gX) (b L : Nat) (f : Nat → Int) : Prop := va_T .int b L (fun j => .int (iI (f j))) (gA w) (gx_s X) (gx_s X).heap
theorem g_scald (hX : gOK w R X cc nL own Ts) {b L : Nat} {f : Nat → Int} (hT : scrT w X b L f) {i : Int} (h0 : 0 ≤ i) (h1 : i < L) (hn : L ≤ 2147483647) (hdg : decode cc pc = .ok (.iaload, 1))
    (k : G w R X nL (pc + 1) lv (vI (f i.toNat) :: st) S) : G w R X nL pc lv (vI i :: .ref b :: st) S := by
  intro H locs ls hP hS hl
  exact va_ti hX.1 hX.2.1 hT hS (iI_vpin h0 h1 hn) (by rw [iI_nat ⟨by omega, by omega⟩]) hdg (k H locs ls hP hS hl)
theorem g_sclen (hX : gOK w R X cc nL own Ts) {b L : Nat} {f : Nat → Int} (hT : scrT w X b L f) (hdg : decode cc pc = .ok (.arraylength, 1))
    (k : G w R X nL (pc + 1) lv (vI (L : Int) :: st) S) : G w R X nL pc lv (.ref b :: st) S := by
  intro H locs ls hP hS hl
  exact va_tlen hX.1 hX.2.1 hT hS (iI_ofNat L) hdg (k H locs ls hP hS hl)
theorem g_f2d (hX : gOK w R X cc nL own Ts) {x : UInt32} (hx : vf_n32 x) (hdg : decode cc pc = .ok (.f2d, 1)) (k : G w R X nL (pc + 1) lv (.double (FP.f2d x) :: st) S) : G w R X nL pc lv (.float x :: st) S := by
  intro H locs ls hP hS hl
  exact lv_f2d hX.1 hX.2.1 hdg (fl_f2d hx).1 (k H locs ls hP hS hl)
theorem g_dstore (hX : gOK w R X cc nL own Ts) {i : Nat} {x : UInt64} {lv2 : List (Nat × Value)} (hn : i + 1 < nL) (hl2 : (i, Value.double x) :: lv.filter (fun q => !(q.1 == i) && (!(q.1 == i + 1) && !(q.1 + 1 == i && q.2.category == 2))) = lv2) (hdg : decode cc pc = .ok (.dstore i, 2)) (k : G w R X nL (pc + 2) lv2 st S) : G w R X nL pc lv (.double x :: st) S := by
  intro H locs ls hP hS hl
  exact lv_dstore hX.1 hX.2.1 hdg hl hn hl2 (fun ls2 hl3 => k H locs ls2 hP hS hl3)
theorem g_dload (hX : gOK w R X cc nL own Ts) {i : Nat} {x : UInt64} (j : Nat) (hj : lv[j]? = some (i, .double x)) (hdg : decode cc pc = .ok (.dload i, 2)) (k : G w R X nL (pc + 2) lv (.double x :: st) S) : G w R X nL pc lv st S := by
  intro H locs ls hP hS hl
  exact lv_dload hX.1 hX.2.1 hdg (lv_at hl j hj) (k H locs ls hP hS hl)
theorem g_dcmp_self (hX : gOK w R X cc nL own Ts) {x : UInt32} (hx : vf_n32 x) {op : CmpOp} (hdg : decode cc pc = .ok (.dcmp op, 1)) (k : G w R X nL (pc + 1) lv (vI 0 :: st) S) : G w R X nL pc lv (.double (FP.f2d x) :: .double (FP.f2d x) :: st) S := by
  intro H locs ls hP hS hl
  refine lv_dcmp hX.1 hX.2.1 hdg ?_
  rw [(fl_f2d hx).2]
  exact k H locs ls hP hS hl
end GLaw
theorem and31 (x : Int32) : ∃ z : Int, x &&& iI 31 = iI z ∧ 0 ≤ z ∧ z ≤ 31 := by
  refine ⟨((x.toBitVec &&& 31#32).toNat : Int), ?_, by omega, ?_⟩
  · apply Int32.toBitVec_inj.mp
    show x.toBitVec &&& (iI 31).toBitVec = (iI ((x.toBitVec &&& 31#32).toNat : Int)).toBitVec
    have e : (iI 31).toBitVec = 31#32 := by decide
    rw [e]
    show _ = BitVec.ofInt 32 _
    rw [BitVec.ofInt_natCast, BitVec.ofNat_toNat, BitVec.setWidth_eq]
  · have h : (x.toBitVec &&& 31#32).toNat ≤ 31 := by
      rw [BitVec.toNat_and]
      exact Nat.and_le_right
    omega
