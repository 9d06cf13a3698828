/-! ===== bits of longs that are not negative (rows of kit/laws, pasted), and rows for them ===== -/
theorem wb_tb (n : Nat) : (lN n).toBitVec = BitVec.ofNat 64 n := rfl
theorem wb_inj {a b : Int64} (h : a.toBitVec = b.toBitVec) : a = b := Int64.toBitVec_inj.mp h
theorem wb_tn {n : Nat} (h : n < 2 ^ 64) : (lN n).toBitVec.toNat = n := by rw [wb_tb, BitVec.toNat_ofNat, Nat.mod_eq_of_lt h]
theorem wb_of (x : Int64) : ∃ n, n < 2 ^ 64 ∧ x = lN n := ⟨x.toBitVec.toNat, x.toBitVec.isLt, wb_inj (by rw [wb_tb]; simp)⟩
theorem wb_c : ∀ k, k < 64 → ((nI k).toInt64 &&& 63) = lN k := by decide +kernel
theorem wb_sm : ∀ k, k < 64 → (BitVec.ofNat 64 k).smod 64 = BitVec.ofNat 64 k := by decide +kernel
theorem wb_lt2 {a b : Nat} (h : a < b) : 2 ^ a < 2 ^ b := Nat.pow_lt_pow_right (by decide) h
theorem wb_shl (n : Nat) {k : Nat} (hk : k < 64) : lN n <<< ((nI k).toInt64 &&& 63) = lN (n * 2 ^ k) := by
  rw [wb_c k hk]
  apply wb_inj
  rw [Int64.toBitVec_shiftLeft, wb_tb, wb_tb, wb_tb, wb_sm k hk]
  apply BitVec.eq_of_toNat_eq
  rw [BitVec.shiftLeft_eq', BitVec.toNat_shiftLeft, BitVec.toNat_ofNat, BitVec.toNat_ofNat, BitVec.toNat_ofNat, Nat.mod_eq_of_lt (show k < 2 ^ 64 by omega), Nat.shiftLeft_eq, Nat.mul_mod, Nat.mod_mod, ← Nat.mul_mod]
theorem wb_and {a b : Nat} (ha : a < 2 ^ 64) (hb : b < 2 ^ 64) : lN a &&& lN b = lN (a &&& b) := by
  apply wb_inj
  rw [Int64.toBitVec_and, wb_tb, wb_tb, wb_tb]
  apply BitVec.eq_of_toNat_eq
  rw [BitVec.toNat_and, BitVec.toNat_ofNat, BitVec.toNat_ofNat, BitVec.toNat_ofNat, Nat.mod_eq_of_lt ha, Nat.mod_eq_of_lt hb, Nat.mod_eq_of_lt (Nat.and_lt_two_pow _ hb)]
theorem wb_or {a b : Nat} (ha : a < 2 ^ 64) (hb : b < 2 ^ 64) : lN a ||| lN b = lN (a ||| b) := by
  apply wb_inj
  rw [Int64.toBitVec_or, wb_tb, wb_tb, wb_tb]
  apply BitVec.eq_of_toNat_eq
  rw [BitVec.toNat_or, BitVec.toNat_ofNat, BitVec.toNat_ofNat, BitVec.toNat_ofNat, Nat.mod_eq_of_lt ha, Nat.mod_eq_of_lt hb, Nat.mod_eq_of_lt (Nat.or_lt_two_pow ha hb)]
theorem wb_mask {n k : Nat} (hn : n < 2 ^ 64) (hk : k < 64) : lN n &&& lN (2 ^ k - 1) = lN (n % 2 ^ k) := by
  rw [wb_and hn (by have := wb_lt2 hk; omega), Nat.and_two_pow_sub_one_eq_mod]
theorem wb_a1 {n : Nat} (hn : n < 2 ^ 64) : lN n &&& 1 = lN (n % 2) := wb_mask (k := 1) hn (by decide)
theorem pf_lI {a : Nat} (h : a < 2 ^ 63) : (lN a).toInt = (a : Int) := lg_ofNat_toInt h
theorem pf_shr {a d : Nat} {D : Int64} (hD : (D.toBitVec.smod 64).toNat = d) (h : a < 2 ^ 62) : lN a >>> D = lN (a / 2 ^ d) := by
  have hd : a / 2 ^ d ≤ a := Nat.div_le_self _ _
  apply Int64.toInt_inj.mp
  have e : (lN a >>> D).toInt = (lN a).toInt >>> d := by
    rw [← hD]
    exact BitVec.toInt_sshiftRight ..
  rw [e, Int.shiftRight_eq_div_pow, pf_lI (by omega), pf_lI (by omega)]
  rfl
theorem fb_orL (a b : Nat) : lN a ||| lN b = lN (a ||| b) := by
  apply Int64.toBitVec_inj.1
  show BitVec.ofNat 64 a ||| BitVec.ofNat 64 b = BitVec.ofNat 64 (a ||| b)
  apply BitVec.eq_of_getLsbD_eq
  intro i hi
  simp [hi]
theorem fb_or_sumL {a k : Nat} (b : Nat) (h : a < 2 ^ k) : lN (2 ^ k * b) ||| lN a = lN (2 ^ k * b + a) := by rw [fb_orL, Nat.two_pow_add_eq_or_of_lt h]
theorem lI_lN {z : Int} (h : 0 ≤ z) : lI z = lN z.toNat := by
  have e : z = (z.toNat : Int) := by omega
  have e2 : lI ((z.toNat : Nat) : Int) = lN z.toNat := Int64.ofInt_eq_ofNat
  rw [← e] at e2
  exact e2
theorem lN_lI (n : Nat) : lN n = lI (n : Int) := Int64.ofInt_eq_ofNat.symm
theorem lI_shl1 {x : Int} (h : 0 ≤ x) : lI x <<< ((iI 1).toInt64 &&& 63) = lI (2 * x) := by
  have e := wb_shl x.toNat (k := 1) (by decide)
  rw [lI_lN h, show (iI 1) = nI 1 from rfl, e, lN_lI]
  congr 1
  omega
theorem lI_or1 {x : Int} (h : 0 ≤ x) (b : Bool) : lI (2 * x) ||| lI (bz b) = lI (2 * x + bz b) := by
  have hb : 0 ≤ bz b ∧ bz b < 2 := by cases b <;> exact ⟨by decide, by decide⟩
  rw [lI_lN (z := 2 * x) (by omega), lI_lN hb.1, show (2 * x).toNat = 2 ^ 1 * x.toNat by omega, fb_or_sumL (k := 1) x.toNat (by omega), lN_lI]
  congr 1
  omega
theorem lI_shr1 {x : Int} (h : 0 ≤ x) (h2 : x < 4611686018427387904) : lI x >>> ((iI 1).toInt64 &&& 63) = lI (x / 2) := by
  rw [lI_lN h, pf_shr (d := 1) (by decide) (by omega), lN_lI]
  congr 1
  omega
theorem lI_and1 {x : Int} (h : 0 ≤ x) (h2 : x < 4611686018427387904) : lI x &&& lI 1 = lI (x % 2) := by
  rw [show lI 1 = 1 from rfl, lI_lN h, wb_a1 (by omega), lN_lI]
  congr 1
  omega
section G14
variable {w : gW} {R : Room} {X : gX} {nL pc : Nat} {cc : ByteArray} {own : String} {Ts : List Cond} {lv : List (Nat × Value)} {st : List Value} {S : Nat → va_E}
theorem bz_inj {a b : Bool} : bz a = bz b ↔ a = b := by cases a <;> cases b <;> decide
theorem g_bcmp_eq (hX : gOK w R X cc nL own Ts) {off : Int} {tgt : Nat} {a b : Bool} (hdg : decode cc pc = .ok (.if_icmp .eq off, 3)) (ht : (pc : Int) + off = (tgt : Int)) (kt : b = a → G w R X nL tgt lv st S) (kf : b = !a → G w R X nL (pc + 3) lv st S) : G w R X nL pc lv (vI (bz b) :: vI (bz a) :: st) S :=
  g_icmp_eq hX (bz_in a) (bz_in b) hdg ht (fun h => kt (bz_inj.mp h).symm) (fun h => kf (by revert h; cases a <;> cases b <;> decide))
theorem g_bcmp_ne (hX : gOK w R X cc nL own Ts) {off : Int} {tgt : Nat} {a b : Bool} (hdg : decode cc pc = .ok (.if_icmp .ne off, 3)) (ht : (pc : Int) + off = (tgt : Int)) (kt : b = !a → G w R X nL tgt lv st S) (kf : b = a → G w R X nL (pc + 3) lv st S) : G w R X nL pc lv (vI (bz b) :: vI (bz a) :: st) S :=
  g_icmp_ne hX (bz_in a) (bz_in b) hdg ht (fun h => kt (by revert h; cases a <;> cases b <;> decide)) (fun h => kf (bz_inj.mp h).symm)
theorem g_mmaxL (hX : gOK w R X cc nL own Ts) {index : Nat} {a b : Int} (ha : inL a) (hb : inL b) (hm1 : Cond.methodLink own index Lib.MathLoose.max_long.x ∈ Ts) (hm2 : Cond.static Lib.MathLoose.max_long.x ∈ Ts) (hm3 : Cond.initialized "java/lang/Math" ∈ Ts) (hm4 : Cond.code Lib.MathLoose.max_long.x Lib.MathLoose.max_long.code 4 (some .long) ∈ Ts) (hfr : 1 ≤ R.frames) (hlo : (st.map fun v => v.category).sum + 15 ≤ R.locals) (hdg : decode cc pc = .ok (.invokestatic index, 3))
    (k : G w R X nL (pc + 3) lv (vL (if a < b then b else a) :: st) S) : G w R X nL pc lv (vL b :: vL a :: st) S := by
  intro H locs ls hP hS hl
  refine va_mmax_long hX.1 hX.2.1 (hX.2.2.1.trans hl.1.symm) hX.2.2.2.1 (hX.2.2.2.2.1 _ hm1) (hX.2.2.2.2.1 _ hm2) (hX.2.2.2.2.1 _ hm3) (hX.2.2.2.2.1 _ hm4) hfr hlo hX.2.2.2.2.2.2.2.2.2.1 hX.2.2.2.2.2.2.2.2.2.2 hdg ?_
  have e : (if lI b < lI a then lI a else lI b) = lI (if a < b then b else a) := by
    by_cases h : a < b
    · rw [if_pos h, if_neg (fun q => by have := (lI_lt hb ha).mp q; omega)]
    · rw [if_neg h]
      by_cases h2 : b < a
      · rw [if_pos ((lI_lt hb ha).mpr h2)]
      · rw [if_neg (fun q => h2 ((lI_lt hb ha).mp q)), show a = b by omega]
  rw [e]
  exact k H locs ls hP hS hl
theorem g_mminL (hX : gOK w R X cc nL own Ts) {index : Nat} {a b : Int} (ha : inL a) (hb : inL b) (hm1 : Cond.methodLink own index Lib.MathLoose.min_long.x ∈ Ts) (hm2 : Cond.static Lib.MathLoose.min_long.x ∈ Ts) (hm3 : Cond.initialized "java/lang/Math" ∈ Ts) (hm4 : Cond.code Lib.MathLoose.min_long.x Lib.MathLoose.min_long.code 4 (some .long) ∈ Ts) (hfr : 1 ≤ R.frames) (hlo : (st.map fun v => v.category).sum + 15 ≤ R.locals) (hdg : decode cc pc = .ok (.invokestatic index, 3))
    (k : G w R X nL (pc + 3) lv (vL (if b < a then b else a) :: st) S) : G w R X nL pc lv (vL b :: vL a :: st) S := by
  intro H locs ls hP hS hl
  refine va_mmin_long hX.1 hX.2.1 (hX.2.2.1.trans hl.1.symm) hX.2.2.2.1 (hX.2.2.2.2.1 _ hm1) (hX.2.2.2.2.1 _ hm2) (hX.2.2.2.2.1 _ hm3) (hX.2.2.2.2.1 _ hm4) hfr hlo hX.2.2.2.2.2.2.2.2.2.1 hX.2.2.2.2.2.2.2.2.2.2 hdg ?_
  have e : (if lI b < lI a then lI b else lI a) = lI (if b < a then b else a) := by
    by_cases h : b < a
    · rw [if_pos h, if_pos ((lI_lt hb ha).mpr h)]
    · rw [if_neg h, if_neg (fun q => h ((lI_lt hb ha).mp q))]
  rw [e]
  exact k H locs ls hP hS hl
theorem g_lk (hX : gOK w R X cc nL own Ts) {dflt : Int} {ps : Array (Int × Int)} {len : Nat} {x off : Int} {tgt : Nat} (hx : inI x) (hp : (ps.toList.zip (ps.toList.drop 1)).all (fun (a, next) => a.1 < next.1) = true) (ho : Op.lookupswitch.offset ps.toList dflt x = off) (hdg : decode cc pc = .ok (.lookupswitch dflt ps, len)) (ht : (pc : Int) + off = (tgt : Int))
    (k : G w R X nL tgt lv st S) : G w R X nL pc lv (vI x :: st) S := by
  intro H locs ls hP hS hl
  exact lv_lookup hX.1 hX.2.1 hdg hp (by rw [iI_toInt hx]; exact ho) ht (k H locs ls hP hS hl)
end G14
