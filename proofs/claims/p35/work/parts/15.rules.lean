/-! ===== rules: what a comparison reads, frames of an evaluation, a change, a charge ===== -/
theorem lcS_b (n : Nat) : 0 ≤ lcS n ∧ lcS n ≤ 10 := by
  match n with
  | 0 => exact ⟨by decide, by decide⟩
  | 1 => exact ⟨by decide, by decide⟩
  | 2 => exact ⟨by decide, by decide⟩
  | 3 => exact ⟨by decide, by decide⟩
  | 4 => exact ⟨by decide, by decide⟩
  | 5 => exact ⟨by decide, by decide⟩
  | n + 6 => exact ⟨Int.le_refl 0, by show (0 : Int) ≤ 10; decide⟩
def colZ (t : Int) : Int := if t < 0 ∨ 6 ≤ t / 100000 / 3 then -1000009 else lcS (t / 100000 / 3).toNat
theorem colZ_in (t : Int) : inI (colZ t) := by
  unfold colZ
  have := lcS_b (t / 100000 / 3).toNat
  split <;> exact ⟨by omega, by omega⟩
theorem colZ_b (t : Int) : colZ t ≤ 10 := by
  unfold colZ
  have := lcS_b (t / 100000 / 3).toNat
  split <;> omega
def cmpZ (x n rel : Int) : Bool := if rel = 0 then decide (x < n) else if rel = 1 then decide (x = n) else decide (n < x)
def cmpT (f : Int → Int) (t : Int) : Bool := cmpZ (f (colZ t)) (t % 100000) (t / 100000 % 3)
abbrev evF : Type := Bool × Bool × Bool
abbrev evT : Type := evF × List evF
def fhd (l : List evF) : evF := l.headD (false, false, false)
def pA (s : evF) : Bool := s.1
def pL (s : evF) : Bool := s.2.1
def pN (s : evF) : Bool := s.2.2
def ev1 (φ : Int → Bool) (t : Int) (s : evT) : evT :=
  if t = -126 then ((s.1.1, s.1.2.1, !s.1.2.2), s.2)
  else if t = -40 then ((false, true, false), s.1 :: s.2)
  else if t = -124 then ((s.1.1 || s.1.2.1, true, s.1.2.2), s.2)
  else if t = -41 then ((pA (fhd s.2), pL (fhd s.2) && ((s.1.1 || s.1.2.1) != pN (fhd s.2)), false), s.2.tail)
  else if 0 ≤ t then ((s.1.1, s.1.2.1 && (φ t != s.1.2.2), false), s.2)
  else s
def evN (φ : Int → Bool) (tk : Int → Int) : Nat → evT
  | 0 => ((false, true, false), [])
  | n + 1 => ev1 φ (tk n) (evN φ tk n)
theorem evN_s (φ : Int → Bool) (tk : Int → Int) {c : Int} (h : 0 ≤ c) : evN φ tk (c + 1).toNat = ev1 φ (tk c) (evN φ tk c.toNat) := by
  rw [show (c + 1).toNat = c.toNat + 1 by omega]
  show ev1 φ (tk (c.toNat : Int)) _ = _
  rw [show ((c.toNat : Nat) : Int) = c by omega]
theorem ev1_len (φ : Int → Bool) (t : Int) (s : evT) : (ev1 φ t s).2.length ≤ s.2.length + 1 := by
  unfold ev1
  split
  · exact Nat.le_succ _
  · split
    · exact Nat.le_refl _
    · split
      · exact Nat.le_succ _
      · split
        · show s.2.tail.length ≤ _
          rw [List.length_tail]
          omega
        · split <;> exact Nat.le_succ _
theorem evN_len (φ : Int → Bool) (tk : Int → Int) : ∀ n, (evN φ tk n).2.length ≤ n
  | 0 => Nat.le_refl _
  | n + 1 => Nat.le_trans (ev1_len φ (tk n) (evN φ tk n)) (Nat.succ_le_succ (evN_len φ tk n))
def enc (f : evF → Bool) : List evF → Int
  | [] => 0
  | b :: l => 2 * enc f l + bz (f b)
theorem bz_b (b : Bool) : 0 ≤ bz b ∧ bz b ≤ 1 := by cases b <;> exact ⟨by decide, by decide⟩
theorem enc_0 (f : evF → Bool) : ∀ l, 0 ≤ enc f l
  | [] => Int.le_refl 0
  | b :: l => by
    have h := enc_0 f l
    have h2 := bz_b (f b)
    show 0 ≤ 2 * enc f l + bz (f b)
    omega
theorem enc_lt (f : evF → Bool) : ∀ l : List evF, enc f l < ((2 ^ l.length : Nat) : Int)
  | [] => by
    show (0 : Int) < ((1 : Nat) : Int)
    decide
  | b :: l => by
    have h := enc_lt f l
    have h2 := bz_b (f b)
    show 2 * enc f l + bz (f b) < ((2 ^ (l.length + 1) : Nat) : Int)
    rw [Nat.pow_succ]
    omega
theorem enc_b (f : evF → Bool) {l : List evF} (h : l.length ≤ 60) : 0 ≤ enc f l ∧ enc f l ≤ 1152921504606846976 := by
  refine ⟨enc_0 f l, ?_⟩
  have h1 := enc_lt f l
  have h2 : 2 ^ l.length ≤ 2 ^ 60 := Nat.pow_le_pow_right (by decide) h
  omega
theorem enc_odd (f : evF → Bool) (l : List evF) (h : f (false, false, false) = false) : decide (enc f l % 2 = 1) = f (fhd l) := by
  cases l with
  | nil => exact h.symm
  | cons b l =>
    show decide ((2 * enc f l + bz (f b)) % 2 = 1) = f b
    have := bz_b (f b)
    rw [show (2 * enc f l + bz (f b)) % 2 = bz (f b) by omega]
    cases f b <;> decide
theorem enc_half (f : evF → Bool) (l : List evF) : enc f l / 2 = enc f l.tail := by
  cases l with
  | nil => rfl
  | cons b l =>
    show (2 * enc f l + bz (f b)) / 2 = enc f l
    have := bz_b (f b)
    omega
def holdsZ (φ : Int → Bool) (R : Int → Int → Int) (r : Int) : Bool := (evN φ (fun i => R r (3 + i)) (R r 0).toNat).1.1 || (evN φ (fun i => R r (3 + i)) (R r 0).toNat).1.2.1
def chgeZ (ch am c : Int) : Int := mx 0 (mn (if ch = 42 then c * am / 1000 else if ch = 43 then c + am else c - am) 1000000000)
theorem chgeZ_b (ch am c : Int) : 0 ≤ chgeZ ch am c ∧ chgeZ ch am c ≤ 1000000000 := by
  unfold chgeZ
  generalize (if ch = 42 then c * am / 1000 else if ch = 43 then c + am else c - am) = x
  unfold mx mn
  split <;> split <;> omega
def chV (φ : Int → Bool) (R : Int → Int → Int) (b : Int) : Nat → Int
  | 0 => b
  | n + 1 => if holdsZ φ R n = true then chgeZ (R n 1) (R n 2) (chV φ R b n) else chV φ R b n
def chP (φ : Int → Bool) (R : Int → Int → Int) (P : Int → Int → Int) (row : Int) : Nat → Int → Int → Int
  | 0 => P
  | n + 1 => if holdsZ φ R n = true then rsn (chP φ R P row n) row (30 + n) else chP φ R P row n
theorem chV_s (φ : Int → Bool) (R : Int → Int → Int) (b : Int) {c : Int} (h : 0 ≤ c) : chV φ R b (c + 1).toNat = if holdsZ φ R c = true then chgeZ (R c 1) (R c 2) (chV φ R b c.toNat) else chV φ R b c.toNat := by
  rw [show (c + 1).toNat = c.toNat + 1 by omega]
  show (if holdsZ φ R (c.toNat : Int) = true then chgeZ (R (c.toNat : Int) 1) (R (c.toNat : Int) 2) (chV φ R b c.toNat) else chV φ R b c.toNat) = _
  rw [show ((c.toNat : Nat) : Int) = c by omega]
theorem chP_s (φ : Int → Bool) (R P : Int → Int → Int) (row : Int) {c : Int} (h : 0 ≤ c) : chP φ R P row (c + 1).toNat = if holdsZ φ R c = true then rsn (chP φ R P row c.toNat) row (30 + c) else chP φ R P row c.toNat := by
  rw [show (c + 1).toNat = c.toNat + 1 by omega]
  show (if holdsZ φ R (c.toNat : Int) = true then rsn (chP φ R P row c.toNat) row (30 + (c.toNat : Int)) else chP φ R P row c.toNat) = _
  rw [show ((c.toNat : Nat) : Int) = c by omega]
theorem chV_b (φ : Int → Bool) (R : Int → Int → Int) {b : Int} (h : 0 ≤ b ∧ b ≤ 1000000000) : ∀ n, 0 ≤ chV φ R b n ∧ chV φ R b n ≤ 1000000000
  | 0 => h
  | n + 1 => by
    show 0 ≤ (if holdsZ φ R n = true then chgeZ (R n 1) (R n 2) (chV φ R b n) else chV φ R b n) ∧ (if holdsZ φ R n = true then chgeZ (R n 1) (R n 2) (chV φ R b n) else chV φ R b n) ≤ (1000000000 : Int)
    split
    · exact chgeZ_b _ _ _
    · exact chV_b φ R h n
theorem rsn_11 (P : Int → Int → Int) (row x : Int) : rsn P row x row 11 = P row 11 + 1 := upd2_eq _ _ _ _
theorem rsn_ne {P : Int → Int → Int} {row x i j : Int} (h : i ≠ row ∨ (j ≠ 11 ∧ j ≠ 12 + P row 11)) : rsn P row x i j = P i j := by
  unfold rsn
  rw [upd2_ne (by omega), upd2_ne (by omega)]
theorem rsn_in {P : Int → Int → Int} {row x : Int} (h : ∀ i j, inI (P i j)) (hx : inI x) (h11 : P row 11 ≤ 1000) : ∀ i j, inI (rsn P row x i j) := by
  have := (h row 11).1
  exact inI_upd2 (inI_upd2 h hx) ⟨by omega, by omega⟩
theorem chP_11 (φ : Int → Bool) (R P : Int → Int → Int) (row : Int) : ∀ n : Nat, P row 11 ≤ chP φ R P row n row 11 ∧ chP φ R P row n row 11 ≤ P row 11 + n
  | 0 => ⟨Int.le_refl _, by show P row 11 ≤ P row 11 + 0; omega⟩
  | n + 1 => by
    have h := chP_11 φ R P row n
    show _ ≤ (if holdsZ φ R n = true then rsn (chP φ R P row n) row (30 + n) else chP φ R P row n) row 11 ∧ (if holdsZ φ R n = true then rsn (chP φ R P row n) row (30 + n) else chP φ R P row n) row 11 ≤ P row 11 + ((n + 1 : Nat) : Int)
    split
    · rw [rsn_11]; omega
    · omega
theorem chP_lo (φ : Int → Bool) (R : Int → Int → Int) {P : Int → Int → Int} {row : Int} (h0 : 0 ≤ P row 11) {j : Int} (hj : j ≤ 10) : ∀ n : Nat, chP φ R P row n row j = P row j
  | 0 => rfl
  | n + 1 => by
    have h := (chP_11 φ R P row n).1
    show (if holdsZ φ R n = true then rsn (chP φ R P row n) row (30 + n) else chP φ R P row n) row j = P row j
    split
    · rw [rsn_ne (Or.inr ⟨by omega, by omega⟩)]; exact chP_lo φ R h0 hj n
    · exact chP_lo φ R h0 hj n
theorem chP_in (φ : Int → Bool) (R : Int → Int → Int) {P : Int → Int → Int} {row : Int} (hP : ∀ i j, inI (P i j)) (h11 : P row 11 ≤ 100) : ∀ n : Nat, n ≤ 8 → ∀ i j, inI (chP φ R P row n i j)
  | 0, _ => hP
  | n + 1, hn => by
    have h := (chP_11 φ R P row n).2
    show ∀ i j, inI ((if holdsZ φ R n = true then rsn (chP φ R P row n) row (30 + n) else chP φ R P row n) i j)
    split
    · exact rsn_in (chP_in φ R hP h11 n (by omega)) ⟨by omega, by omega⟩ (by omega)
    · exact chP_in φ R hP h11 n (by omega)
def fact (P : Int → Int → Int) (rm row : Int) : Int → Bool := cmpT (fun j => tcell rm 22 P row j)
theorem chP_fact (φ : Int → Bool) (R : Int → Int → Int) {P : Int → Int → Int} {rm row : Int} (h0 : 0 ≤ P row 11) (n : Nat) : fact (chP φ R P row n) rm row = fact P rm row := by
  funext t
  show cmpZ (tcell rm 22 (chP φ R P row n) row (colZ t)) _ _ = cmpZ (tcell rm 22 P row (colZ t)) _ _
  have e : tcell rm 22 (chP φ R P row n) row (colZ t) = tcell rm 22 P row (colZ t) := by
    unfold tcell
    rw [chP_lo φ R h0 (colZ_b t) n]
  rw [e]
/-! what turns below a weight -/
def stZ (t unit : Int) : Int := if colZ t = 6 then unit else 1
def tu1 (n st real : Int) : Int := if n / st * st < real then n / st * st else (n - 1).tdiv st * st
def turnZ (t real unit : Int) : Int := if colZ t ≠ 6 ∧ colZ t ≠ 0 then 0 else if tu1 (t % 100000) (stZ t unit) real < real then tu1 (t % 100000) (stZ t unit) real else 0
def tlZ (R : Int → Int → Int) (r real unit a : Int) : Nat → Int
  | 0 => a
  | n + 1 => mx (tlZ R r real unit a n) (turnZ (R r (3 + n)) real unit)
def nlZ (R : Int → Int → Int) (real unit : Int) : Nat → Int
  | 0 => 0
  | n + 1 => tlZ R n real unit (nlZ R real unit n) (R n 0).toNat
theorem tlZ_s (R : Int → Int → Int) (r real unit a : Int) {c : Int} (h : 0 ≤ c) : tlZ R r real unit a (c + 1).toNat = mx (tlZ R r real unit a c.toNat) (turnZ (R r (3 + c)) real unit) := by
  rw [show (c + 1).toNat = c.toNat + 1 by omega]
  show mx (tlZ R r real unit a c.toNat) (turnZ (R r (3 + (c.toNat : Int))) real unit) = _
  rw [show ((c.toNat : Nat) : Int) = c by omega]
theorem nlZ_s (R : Int → Int → Int) (real unit : Int) {c : Int} (h : 0 ≤ c) : nlZ R real unit (c + 1).toNat = tlZ R c real unit (nlZ R real unit c.toNat) (R c 0).toNat := by
  rw [show (c + 1).toNat = c.toNat + 1 by omega]
  show tlZ R (c.toNat : Int) real unit (nlZ R real unit c.toNat) (R (c.toNat : Int) 0).toNat = _
  rw [show ((c.toNat : Nat) : Int) = c by omega]
theorem ws_b {x y : Int} (hx : -1 ≤ x) (hy : 0 < y) : -1 ≤ x.tdiv y * y ∧ x.tdiv y * y ≤ x + 1 ∧ (0 ≤ x → x.tdiv y * y ≤ x) := by
  by_cases h : 0 ≤ x
  · rw [fdiv_a h]
    have h1 := Int.ediv_mul_le x (show y ≠ 0 by omega)
    have h2 : 0 ≤ x / y * y := Int.mul_nonneg (Int.ediv_nonneg h (by omega)) (by omega)
    omega
  · have := tdiv_mul_b (x := x) (y := y) (by omega) hy
    omega
theorem tu1_b {n st real : Int} (hn : 0 ≤ n) (hs : 0 < st) : -1 ≤ tu1 n st real ∧ tu1 n st real ≤ n := by
  unfold tu1
  have h1 := ws_b (x := n) (y := st) (by omega) hs
  have h2 := ws_b (x := n - 1) (y := st) (by omega) hs
  rw [fdiv_a hn] at h1
  split <;> omega
theorem stZ_b {t unit : Int} (h : 1 ≤ unit ∧ unit ≤ 1000) : 1 ≤ stZ t unit ∧ stZ t unit ≤ 1000 := by
  unfold stZ
  split <;> omega
theorem turnZ_b {t real unit : Int} (hu : 1 ≤ unit ∧ unit ≤ 1000) : -1 ≤ turnZ t real unit ∧ turnZ t real unit ≤ 100000 := by
  unfold turnZ
  have h1 := tu1_b (n := t % 100000) (st := stZ t unit) (real := real) (by omega) (by have := stZ_b (t := t) hu; omega)
  split
  · omega
  · split <;> omega
theorem tlZ_b (R : Int → Int → Int) (r real : Int) {unit a : Int} (hu : 1 ≤ unit ∧ unit ≤ 1000) (ha : 0 ≤ a ∧ a ≤ 100000) : ∀ n, 0 ≤ tlZ R r real unit a n ∧ tlZ R r real unit a n ≤ 100000
  | 0 => ha
  | n + 1 => by
    have h1 := tlZ_b R r real hu ha n
    have h2 := turnZ_b (t := R r (3 + n)) (real := real) hu
    show 0 ≤ mx (tlZ R r real unit a n) (turnZ (R r (3 + n)) real unit) ∧ mx (tlZ R r real unit a n) (turnZ (R r (3 + n)) real unit) ≤ 100000
    unfold mx
    split <;> omega
theorem nlZ_b (R : Int → Int → Int) (real : Int) {unit : Int} (hu : 1 ≤ unit ∧ unit ≤ 1000) : ∀ n, 0 ≤ nlZ R real unit n ∧ nlZ R real unit n ≤ 100000
  | 0 => ⟨Int.le_refl 0, by show (0 : Int) ≤ 100000; decide⟩
  | n + 1 => tlZ_b R n real hu (nlZ_b R real hu n) _
abbrev OU (w : gW) (kr : Nat) : va_E := .inr (2, [.ref (gw_ad w kr)])
def ruOK (nR : Int) (R : Int → Int → Int) : Prop := (0 ≤ nR ∧ nR ≤ 8) ∧ ∀ r, 0 ≤ r → r < nR → (0 ≤ R r 0 ∧ R r 0 ≤ 60) ∧ (0 ≤ R r 2 ∧ R r 2 ≤ 99999)

set_option maxHeartbeats 4000000 in
set_option maxRecDepth 100000 in
theorem c_X2_columnOf {w : gW} {l : Launch} {S : Nat → va_E} {t : Int} (ht : inI t) :
    GM1 w l yX2_columnOf wsX2_columnOf { frames := 0, cells := 0, slots := 0, locals := 0 } [vI (t)] S
      (fun v S' => v = vI (colZ t) ∧ S' = S) := by
  refine GM.start (own := RX2) (n := "columnOf") (d := "(I)I") (by decide) rfl (Nat.le_of_ble_eq_true rfl) ?_
  intro X hX hR hXl
  subst hXl
  refine g_at rfl (lv2 := [(0, vI (t))]) rfl rfl rfl ?_
  refine g_iload_n (pc := 0) hX 0 rfl dX2_columnOf_0 ?_
  refine g_ldc (pc := 1) hX (z := 100000) (List.mem_of_getElem? (i := 1) rfl) (by decide +kernel) dX2_columnOf_1 ?_
  refine g_idiv (pc := 3) hX ht (by first | assumption | exact inI_mk (by omega) (by omega)) (by omega) dX2_columnOf_3 ?_
  refine g_iconst (pc := 4) hX dX2_columnOf_4 ?_
  refine g_idiv (pc := 5) hX (tdiv_in ht (by omega)) (by first | assumption | exact inI_mk (by omega) (by omega)) (by omega) dX2_columnOf_5 ?_
  refine g_istore_n (pc := 6) hX (lv2 := [(1, vI (((t).tdiv (100000)).tdiv (3))), (0, vI (t))]) rfl (by decide) rfl dX2_columnOf_6 ?_
  refine g_iload_n (pc := 7) hX 1 rfl dX2_columnOf_7 ?_
  refine g_if_lt (pc := 8) (tgt := 19) hX (by first | assumption | exact inI_mk (by omega) (by omega)) dX2_columnOf_8 (by decide) (fun c_8 => ?_) (fun c_8 => ?_)
  · skip
    refine g_ldc (pc := 19) hX (z := -1000009) (List.mem_of_getElem? (i := 2) rfl) (by decide +kernel) dX2_columnOf_19 ?_
    refine g_iret (pc := 21) hX hR dX2_columnOf_21 ?_
    exact ⟨vI_c (by unfold colZ; rw [if_pos (by omega)]), rfl⟩
  · skip
    have e3 : ((t).tdiv (100000)).tdiv (3) = t / 100000 / 3 := by rw [fdiv_a c_8, fdiv_a (by omega)]
    refine g_iload_n (pc := 11) hX 0 rfl dX2_columnOf_11 ?_
    refine g_getsN (pc := 12) hX (ref := "ParcelDesk") hX.2.2.2.2.2.2.2.2.1.2.2.1 hX.2.2.2.2.2.2.2.2.1.2.2.2.2.2 dX2_columnOf_12 ?_
    refine g_stlen (pc := 15) hX hX.2.2.2.2.2.2.2.2.1.2.2.1 dX2_columnOf_15 ?_
    refine g_icmp_lt (pc := 16) (tgt := 22) hX (tdiv_in (tdiv_in ht (by omega)) (by omega)) (by first | assumption | exact inI_mk (by omega) (by omega)) dX2_columnOf_16 (by decide) (fun c_16 => ?_) (fun c_16 => ?_)
    · skip
      refine g_getsN (pc := 22) hX (ref := "ParcelDesk") hX.2.2.2.2.2.2.2.2.1.2.2.1 hX.2.2.2.2.2.2.2.2.1.2.2.2.2.2 dX2_columnOf_22 ?_
      refine g_iload_n (pc := 25) hX 0 rfl dX2_columnOf_25 ?_
      refine g_stald (pc := 26) hX hX.2.2.2.2.2.2.2.2.1.2.2.1 (by omega) (by omega) (by decide) dX2_columnOf_26 ?_
      refine g_iret (pc := 27) hX hR dX2_columnOf_27 ?_
      exact ⟨vI_c (by unfold colZ; rw [if_neg (by omega), e3]), rfl⟩
    · skip
      refine g_ldc (pc := 19) hX (z := -1000009) (List.mem_of_getElem? (i := 2) rfl) (by decide +kernel) dX2_columnOf_19 ?_
      refine g_iret (pc := 21) hX hR dX2_columnOf_21 ?_
      exact ⟨vI_c (by unfold colZ; rw [if_pos (by omega)]), rfl⟩

set_option maxHeartbeats 4000000 in
set_option maxRecDepth 100000 in
theorem c_X2_compares {w : gW} {l : Launch} {S : Nat → va_E} {t t1 n : Nat} {rm cn : Int} {P : Int → Int → Int} (ht : t < gw_N w) (ht1 : t1 < gw_N w) (et : S t = OT w rm 22 t1 cn) (et1 : S t1 = AT w n 22 P) (hn : rm * 22 ≤ n) (hn2 : n ≤ 2147483647) (hrm : inI rm) {row : Int} (hr0 : 0 ≤ row) (hr1 : row < rm) (hP : ∀ i j, inI (P i j)) {tk : Int} (h0 : 0 ≤ tk) (htk : inI tk) :
    GM1 w l yX2_compares wsX2_compares { frames := 1, cells := 0, slots := 0, locals := 22 } [vI (tk), .ref (gw_ad w t), vI (row)] S
      (fun v S' => v = vI (bz (fact P rm row tk)) ∧ S' = S) := by
  refine GM.start (own := RX2) (n := "compares") (d := "(ILParcelDesk$Table;I)Z") (by decide) rfl (Nat.le_of_ble_eq_true rfl) ?_
  intro X hX hR hXl
  subst hXl
  refine g_at rfl (lv2 := [(0, vI (tk)), (1, .ref (gw_ad w t)), (2, vI (row))]) rfl rfl rfl ?_
  have hrow : inI row := by have := hrm.2; exact inI_mk (by omega) (by omega)
  have htkB := htk.2
  have hfac := inI_tcell (rm := rm) (wd := 22) (r := row) (c := colZ tk) hP
  refine g_iload_n (pc := 0) hX 0 rfl dX2_compares_0 ?_
  refine g_ldc (pc := 1) hX (z := 100000) (List.mem_of_getElem? (i := 1) rfl) (by decide +kernel) dX2_compares_1 ?_
  refine g_irem (pc := 3) hX htk (by first | assumption | exact inI_mk (by omega) (by omega)) (by omega) dX2_compares_3 ?_
  refine g_istore_n (pc := 4) hX (lv2 := [(3, vI ((tk).tmod (100000))), (0, vI (tk)), (1, .ref (gw_ad w t)), (2, vI (row))]) rfl (by decide) rfl dX2_compares_4 ?_
  refine g_aload_n (pc := 5) hX 2 rfl dX2_compares_5 ?_
  refine g_iload_n (pc := 6) hX 3 rfl dX2_compares_6 ?_
  refine g_iload_n (pc := 7) hX 1 rfl dX2_compares_7 ?_
  refine g_callT1 (pc := 8) (As := [vI (tk)]) (st2 := [vI (row), .ref (gw_ad w t)]) hX (c_X2_columnOf (t := tk) htk) gX2_compares_X2_columnOf (n := 1) (hw := rfl) (hrc := rfl) (hrs := rfl) (hd := by decide +kernel) (hR := ⟨Nat.le_of_ble_eq_true rfl, Nat.le_of_ble_eq_true rfl⟩) (hn := rfl) (hst := rfl) (hsum := Nat.le_of_ble_eq_true rfl) (hdg := dX2_compares_8) ?_
  rintro _ S9 ⟨rfl, e9⟩
  rw [e9]
  clear e9 S9
  refine g_at (pc2 := 11) rfl rfl (st2 := [vI (colZ tk), vI (row), .ref (gw_ad w t)]) rfl (S2 := S) rfl ?_
  refine g_callV1 (pc := 11) (ci := 5) (As := [vI (row), vI (colZ tk)]) (st2 := []) hX t ht et rfl (c_X5_cell (row := row) (col := colZ tk) ht ht1 et et1 hn hn2 hrm (by first | assumption | exact inI_mk (by omega) (by omega)) (by first | assumption | exact inI_mk (by omega) (by omega)) (colZ_in tk)) gX2_compares_X5_cell (n := 2) (hw := rfl) (hrc := rfl) (hrs := rfl) (hd := by decide +kernel) (hR := ⟨Nat.le_of_ble_eq_true rfl, Nat.le_of_ble_eq_true rfl⟩) (hn := rfl) (hst := rfl) (hsum := Nat.le_of_ble_eq_true rfl) (hdg := dX2_compares_11) ?_
  rintro _ S9 ⟨rfl, e9⟩
  rw [e9]
  clear e9 S9
  refine g_at (pc2 := 14) rfl rfl (st2 := [vI (tcell rm 22 P row (colZ tk))]) rfl (S2 := S) rfl ?_
  refine g_istore (pc := 14) hX (lv2 := [(4, vI (tcell rm 22 P row (colZ tk))), (3, vI ((tk).tmod (100000))), (0, vI (tk)), (1, .ref (gw_ad w t)), (2, vI (row))]) (by decide) rfl dX2_compares_14 ?_
  refine g_iload_n (pc := 16) hX 2 rfl dX2_compares_16 ?_
  refine g_ldc (pc := 17) hX (z := 100000) (List.mem_of_getElem? (i := 1) rfl) (by decide +kernel) dX2_compares_17 ?_
  refine g_idiv (pc := 19) hX htk (by first | assumption | exact inI_mk (by omega) (by omega)) (by omega) dX2_compares_19 ?_
  refine g_iconst (pc := 20) hX dX2_compares_20 ?_
  refine g_irem (pc := 21) hX (tdiv_in htk (by omega)) (by first | assumption | exact inI_mk (by omega) (by omega)) (by omega) dX2_compares_21 ?_
  have hrel : ((tk).tdiv (100000)).tmod (3) = tk / 100000 % 3 := by rw [fdiv_a h0, Int.tmod_eq_emod_of_nonneg (by omega)]
  have hnum : (tk).tmod (100000) = tk % 100000 := Int.tmod_eq_emod_of_nonneg h0
  rcases (show tk / 100000 % 3 = 0 ∨ tk / 100000 % 3 = 1 ∨ tk / 100000 % 3 = 2 by omega) with hs | hs | hs
  · skip
    refine g_lk (pc := 22) (tgt := 48) (off := 26) hX (by rw [hrel, hs]; exact inI_mk (by omega) (by omega)) (by decide) (by rw [hrel, hs]; rfl) dX2_compares_22 (by decide) ?_
    refine g_iload (pc := 48) hX 0 rfl dX2_compares_48 ?_
    refine g_iload_n (pc := 50) hX 1 rfl dX2_compares_50 ?_
    refine g_icmp_ge (pc := 51) (tgt := 58) hX hfac (by rw [hnum]; exact inI_mk (by omega) (by omega)) dX2_compares_51 (by decide) (fun c_51 => ?_) (fun c_51 => ?_)
    · skip
      refine g_iconst (pc := 58) hX dX2_compares_58 ?_
      refine g_at rfl rfl (st2 := [vI (bz false)]) rfl rfl ?_
      refine g_zret (pc := 59) hX hR dX2_compares_59 ?_
      exact ⟨vB_f (by show cmpZ (tcell rm 22 P row (colZ tk)) (tk % 100000) (tk / 100000 % 3) = false; rw [hnum] at c_51; rw [hs]; exact df (by omega)), rfl⟩
    · skip
      refine g_iconst (pc := 54) hX dX2_compares_54 ?_
      refine g_goto (pc := 55) (tgt := 59) hX dX2_compares_55 (by decide) ?_
      refine g_at rfl rfl (st2 := [vI (bz true)]) rfl rfl ?_
      refine g_zret (pc := 59) hX hR dX2_compares_59 ?_
      exact ⟨vB_t (by show cmpZ (tcell rm 22 P row (colZ tk)) (tk % 100000) (tk / 100000 % 3) = true; rw [hnum] at c_51; rw [hs]; exact dt (by omega)), rfl⟩
  · skip
    refine g_lk (pc := 22) (tgt := 60) (off := 38) hX (by rw [hrel, hs]; exact inI_mk (by omega) (by omega)) (by decide) (by rw [hrel, hs]; rfl) dX2_compares_22 (by decide) ?_
    refine g_iload (pc := 60) hX 0 rfl dX2_compares_60 ?_
    refine g_iload_n (pc := 62) hX 1 rfl dX2_compares_62 ?_
    refine g_icmp_ne (pc := 63) (tgt := 70) hX hfac (by rw [hnum]; exact inI_mk (by omega) (by omega)) dX2_compares_63 (by decide) (fun c_63 => ?_) (fun c_63 => ?_)
    · skip
      refine g_iconst (pc := 70) hX dX2_compares_70 ?_
      refine g_at rfl rfl (st2 := [vI (bz false)]) rfl rfl ?_
      refine g_zret (pc := 71) hX hR dX2_compares_71 ?_
      exact ⟨vB_f (by show cmpZ (tcell rm 22 P row (colZ tk)) (tk % 100000) (tk / 100000 % 3) = false; rw [hnum] at c_63; rw [hs]; exact df (by omega)), rfl⟩
    · skip
      refine g_iconst (pc := 66) hX dX2_compares_66 ?_
      refine g_goto (pc := 67) (tgt := 71) hX dX2_compares_67 (by decide) ?_
      refine g_at rfl rfl (st2 := [vI (bz true)]) rfl rfl ?_
      refine g_zret (pc := 71) hX hR dX2_compares_71 ?_
      exact ⟨vB_t (by show cmpZ (tcell rm 22 P row (colZ tk)) (tk % 100000) (tk / 100000 % 3) = true; rw [hnum] at c_63; rw [hs]; exact dt (by omega)), rfl⟩
  · skip
    refine g_lk (pc := 22) (tgt := 72) (off := 50) hX (by rw [hrel, hs]; exact inI_mk (by omega) (by omega)) (by decide) (by rw [hrel, hs]; rfl) dX2_compares_22 (by decide) ?_
    refine g_iload (pc := 72) hX 0 rfl dX2_compares_72 ?_
    refine g_iload_n (pc := 74) hX 1 rfl dX2_compares_74 ?_
    refine g_icmp_le (pc := 75) (tgt := 82) hX hfac (by rw [hnum]; exact inI_mk (by omega) (by omega)) dX2_compares_75 (by decide) (fun c_75 => ?_) (fun c_75 => ?_)
    · skip
      refine g_iconst (pc := 82) hX dX2_compares_82 ?_
      refine g_at rfl rfl (st2 := [vI (bz false)]) rfl rfl ?_
      refine g_zret (pc := 83) hX hR dX2_compares_83 ?_
      exact ⟨vB_f (by show cmpZ (tcell rm 22 P row (colZ tk)) (tk % 100000) (tk / 100000 % 3) = false; rw [hnum] at c_75; rw [hs]; exact df (by omega)), rfl⟩
    · skip
      refine g_iconst (pc := 78) hX dX2_compares_78 ?_
      refine g_goto (pc := 79) (tgt := 83) hX dX2_compares_79 (by decide) ?_
      refine g_at rfl rfl (st2 := [vI (bz true)]) rfl rfl ?_
      refine g_zret (pc := 83) hX hR dX2_compares_83 ?_
      exact ⟨vB_t (by show cmpZ (tcell rm 22 P row (colZ tk)) (tk % 100000) (tk / 100000 % 3) = true; rw [hnum] at c_75; rw [hs]; exact dt (by omega)), rfl⟩

set_option maxHeartbeats 4000000 in
set_option maxRecDepth 100000 in
theorem c_X2_pushed {w : gW} {l : Launch} {S : Nat → va_E} {x : Int} {b : Bool} (h0 : 0 ≤ x) :
    GM1 w l yX2_pushed wsX2_pushed { frames := 0, cells := 0, slots := 0, locals := 0 } [vL (x), vI (bz (b))] S
      (fun v S' => v = vL (2 * x + bz b) ∧ S' = S) := by
  refine GM.start (own := RX2) (n := "pushed") (d := "(JZ)J") (by decide) rfl (Nat.le_of_ble_eq_true rfl) ?_
  intro X hX hR hXl
  subst hXl
  refine g_at rfl (lv2 := [(0, vL (x)), (2, vI (bz (b)))]) rfl rfl rfl ?_
  refine g_lload_n (pc := 0) hX 0 rfl dX2_pushed_0 ?_
  refine g_iconst (pc := 1) hX dX2_pushed_1 ?_
  refine g_lshl (pc := 2) hX (z := 2 * x) (lI_shl1 h0) dX2_pushed_2 ?_
  refine g_iload_n (pc := 3) hX 1 rfl dX2_pushed_3 ?_
  refine g_bif_eq (pc := 4) (tgt := 11) hX dX2_pushed_4 (by decide) (fun c_4 => ?_) (fun c_4 => ?_)
  · skip
    refine g_iconst (pc := 11) hX dX2_pushed_11 ?_
    refine g_i2l (pc := 12) hX (by first | assumption | exact inI_mk (by omega) (by omega)) dX2_pushed_12 ?_
    refine g_lor (pc := 13) hX (z := 2 * x + bz false) (lI_or1 h0 false) dX2_pushed_13 ?_
    refine g_lret (pc := 14) hX hR dX2_pushed_14 ?_
    exact ⟨by rw [c_4], rfl⟩
  · skip
    refine g_iconst (pc := 7) hX dX2_pushed_7 ?_
    refine g_goto (pc := 8) (tgt := 12) hX dX2_pushed_8 (by decide) ?_
    refine g_i2l (pc := 12) hX (by first | assumption | exact inI_mk (by omega) (by omega)) dX2_pushed_12 ?_
    refine g_lor (pc := 13) hX (z := 2 * x + bz true) (lI_or1 h0 true) dX2_pushed_13 ?_
    refine g_lret (pc := 14) hX hR dX2_pushed_14 ?_
    exact ⟨by rw [c_4], rfl⟩

set_option maxHeartbeats 4000000 in
set_option maxRecDepth 100000 in
theorem c_X2_isSet {w : gW} {l : Launch} {S : Nat → va_E} {x : Int} (h0 : 0 ≤ x) (h1 : x < 4611686018427387904) :
    GM1 w l yX2_isSet wsX2_isSet { frames := 0, cells := 0, slots := 0, locals := 0 } [vL (x)] S
      (fun v S' => v = vI (bz (decide (x % 2 = 1))) ∧ S' = S) := by
  refine GM.start (own := RX2) (n := "isSet") (d := "(J)Z") (by decide) rfl (Nat.le_of_ble_eq_true rfl) ?_
  intro X hX hR hXl
  subst hXl
  refine g_at rfl (lv2 := [(0, vL (x))]) rfl rfl rfl ?_
  refine g_lload_n (pc := 0) hX 0 rfl dX2_isSet_0 ?_
  refine g_lconst (pc := 1) hX (z := 1) rfl dX2_isSet_1 ?_
  refine g_land (pc := 2) hX (z := x % 2) (lI_and1 h0 h1) dX2_isSet_2 ?_
  refine g_lconst (pc := 3) hX (z := 0) rfl dX2_isSet_3 ?_
  refine g_lcmp_eq (pc := 4) (tgt := 12) hX (by first | assumption | exact inL_mk (by omega) (by omega)) (by first | assumption | exact inL_mk (by omega) (by omega)) dX2_isSet_4 dX2_isSet_5 (by decide) (fun c_4 => ?_) (fun c_4 => ?_)
  · skip
    refine g_iconst (pc := 12) hX dX2_isSet_12 ?_
    refine g_at rfl rfl (st2 := [vI (bz false)]) rfl rfl ?_
    refine g_zret (pc := 13) hX hR dX2_isSet_13 ?_
    exact ⟨vB_f (df (by omega)), rfl⟩
  · skip
    refine g_iconst (pc := 8) hX dX2_isSet_8 ?_
    refine g_goto (pc := 9) (tgt := 13) hX dX2_isSet_9 (by decide) ?_
    refine g_at rfl rfl (st2 := [vI (bz true)]) rfl rfl ?_
    refine g_zret (pc := 13) hX hR dX2_isSet_13 ?_
    exact ⟨vB_t (dt (by omega)), rfl⟩

set_option maxHeartbeats 4000000 in
set_option maxRecDepth 100000 in
theorem c_X2_count {w : gW} {l : Launch} {S : Nat → va_E} {k kr kr1 : Nat} {nR : Int} {R : Int → Int → Int} (hk : k < gw_N w) (hkr : kr < gw_N w) (hkr1 : kr1 < gw_N w) (ek : S k = OU w kr) (ekr : S kr = OT w 8 63 kr1 nR) (ekr1 : S kr1 = AT w 504 63 R) :
    GM1 w l yX2_count wsX2_count { frames := 0, cells := 0, slots := 0, locals := 0 } [.ref (gw_ad w k)] S
      (fun v S' => v = vI nR ∧ S' = S) := by
  refine GM.start (own := RX2) (n := "count") (d := "()I") (by decide) rfl (Nat.le_of_ble_eq_true rfl) ?_
  intro X hX hR hXl
  subst hXl
  refine g_at rfl (lv2 := [(0, .ref (gw_ad w k))]) rfl rfl rfl ?_
  refine g_aload_n (pc := 0) hX 0 rfl dX2_count_0 ?_
  refine g_get (pc := 1) hX (ci := 2) (fun _ h => List.mem_cons_of_mem _ (List.mem_append_left _ (List.mem_append_right _ h))) rfl k hk ek 0 (by decide) (List.mem_of_getElem? (i := 1) rfl) rfl (v := .ref (gw_ad w kr)) rfl dX2_count_1 ?_
  refine g_get (pc := 4) hX (ci := 5) (fun _ h => List.mem_cons_of_mem _ (List.mem_append_right _ h)) rfl kr hkr ekr 3 (by decide) (List.mem_of_getElem? (i := 2) rfl) rfl (v := vI (nR)) rfl dX2_count_4 ?_
  refine g_iret (pc := 7) hX hR dX2_count_7 ?_
  exact ⟨rfl, rfl⟩

set_option maxHeartbeats 4000000 in
set_option maxRecDepth 100000 in
theorem c_X2_dropRule {w : gW} {l : Launch} {S : Nat → va_E} {k kr kr1 : Nat} {nR : Int} {R : Int → Int → Int} (hk : k < gw_N w) (hkr : kr < gw_N w) (hkr1 : kr1 < gw_N w) (ek : S k = OU w kr) (ekr : S kr = OT w 8 63 kr1 nR) (ekr1 : S kr1 = AT w 504 63 R) (h0 : 1 ≤ nR) (h8 : nR ≤ 8) :
    GM0 w l yX2_dropRule wsX2_dropRule { frames := 1, cells := 0, slots := 0, locals := 21 } [.ref (gw_ad w k)] S
      (fun S' => S' = va_up S kr (OT w 8 63 kr1 (nR - 1))) := by
  refine GM.start (own := RX2) (n := "dropRule") (d := "()V") (by decide) rfl (Nat.le_of_ble_eq_true rfl) ?_
  intro X hX hR hXl
  subst hXl
  refine g_at rfl (lv2 := [(0, .ref (gw_ad w k))]) rfl rfl rfl ?_
  refine g_aload_n (pc := 0) hX 0 rfl dX2_dropRule_0 ?_
  refine g_get (pc := 1) hX (ci := 2) (fun _ h => List.mem_cons_of_mem _ (List.mem_append_left _ (List.mem_append_right _ h))) rfl k hk ek 0 (by decide) (List.mem_of_getElem? (i := 1) rfl) rfl (v := .ref (gw_ad w kr)) rfl dX2_dropRule_1 ?_
  refine g_aload_n (pc := 4) hX 0 rfl dX2_dropRule_4 ?_
  refine g_get (pc := 5) hX (ci := 2) (fun _ h => List.mem_cons_of_mem _ (List.mem_append_left _ (List.mem_append_right _ h))) rfl k hk ek 0 (by decide) (List.mem_of_getElem? (i := 1) rfl) rfl (v := .ref (gw_ad w kr)) rfl dX2_dropRule_5 ?_
  refine g_get (pc := 8) hX (ci := 5) (fun _ h => List.mem_cons_of_mem _ (List.mem_append_right _ h)) rfl kr hkr ekr 3 (by decide) (List.mem_of_getElem? (i := 2) rfl) rfl (v := vI (nR)) rfl dX2_dropRule_8 ?_
  refine g_iconst (pc := 11) hX dX2_dropRule_11 ?_
  refine g_isub (pc := 12) hX dX2_dropRule_12 ?_
  refine g_iconst (pc := 13) hX dX2_dropRule_13 ?_
  refine g_mmax (pc := 14) hX (by first | assumption | exact inI_mk (by omega) (by omega)) (by first | assumption | exact inI_mk (by omega) (by omega)) (List.mem_of_getElem? (i := 3) rfl) (List.mem_of_getElem? (i := 4) rfl) (List.mem_of_getElem? (i := 5) rfl) (List.mem_of_getElem? (i := 6) rfl) (Nat.le_of_ble_eq_true rfl) (Nat.le_of_ble_eq_true rfl) dX2_dropRule_14 ?_
  obtain ⟨a0, ea0⟩ : ∃ z : Int, z = (if nR - 1 < 0 then 0 else nR - 1) := ⟨_, rfl⟩
  refine g_at rfl rfl (st2 := [vI (a0), .ref (gw_ad w kr)]) (by rw [ea0]) rfl ?_
  refine g_put (pc := 17) hX (ci := 5) (fun _ h => List.mem_cons_of_mem _ (List.mem_append_right _ h)) rfl tyX5 tyX5_ok nmX5 kr hkr ekr 3 (by decide) (List.mem_of_getElem? (i := 2) rfl) rfl rfl (tyX5_ok 3 (by decide)) rfl (fit_int _) (Nat.le_of_ble_eq_true rfl) dX2_dropRule_17 ?_
  refine g_at rfl rfl rfl (S2 := (va_up S kr (.inr (5, [vI (8), vI (63), .ref (gw_ad w kr1), vI (a0)])))) rfl ?_
  refine g_vret (pc := 20) hX hR dX2_dropRule_20 ?_
  rw [show nR - 1 = a0 by rw [ea0]; split <;> omega]

set_option maxHeartbeats 4000000 in
set_option maxRecDepth 100000 in
theorem c_X2_changed {w : gW} {l : Launch} {S : Nat → va_E} {k kr kr1 : Nat} {nR : Int} {R : Int → Int → Int} (hk : k < gw_N w) (hkr : kr < gw_N w) (hkr1 : kr1 < gw_N w) (ek : S k = OU w kr) (ekr : S kr = OT w 8 63 kr1 nR) (ekr1 : S kr1 = AT w 504 63 R) (hRR : ∀ i j, inI (R i j)) {r c : Int} (hr0 : 0 ≤ r) (hr8 : r < 8) (hc : 0 ≤ c ∧ c ≤ 1000000000) (ha : 0 ≤ R r 2 ∧ R r 2 ≤ 99999) :
    GM1 w l yX2_changed wsX2_changed { frames := 1, cells := 0, slots := 0, locals := 22 } [.ref (gw_ad w k), vI (r), vI (c)] S
      (fun v S' => v = vI (chgeZ (R r 1) (R r 2) c) ∧ S' = S) := by
  refine GM.start (own := RX2) (n := "changed") (d := "(II)I") (by decide) rfl (Nat.le_of_ble_eq_true rfl) ?_
  intro X hX hR hXl
  subst hXl
  refine g_at rfl (lv2 := [(0, .ref (gw_ad w k)), (1, vI (r)), (2, vI (c))]) rfl rfl rfl ?_
  have hmu : 0 ≤ c * R r 2 ∧ c * R r 2 ≤ 100000000000000 := ⟨Int.mul_nonneg hc.1 ha.1, by have := Int.mul_le_mul hc.2 ha.2 ha.1 (by omega); omega⟩
  have hdv : (c * R r 2).tdiv 1000 = c * R r 2 / 1000 := fdiv_a hmu.1
  refine g_aload_n (pc := 0) hX 0 rfl dX2_changed_0 ?_
  refine g_get (pc := 1) hX (ci := 2) (fun _ h => List.mem_cons_of_mem _ (List.mem_append_left _ (List.mem_append_right _ h))) rfl k hk ek 0 (by decide) (List.mem_of_getElem? (i := 1) rfl) rfl (v := .ref (gw_ad w kr)) rfl dX2_changed_1 ?_
  refine g_iload_n (pc := 4) hX 1 rfl dX2_changed_4 ?_
  refine g_iconst (pc := 5) hX dX2_changed_5 ?_
  refine g_callV1 (pc := 6) (ci := 5) (As := [vI (r), vI (1)]) (st2 := []) hX kr hkr ekr rfl (c_X5_cell (row := r) (col := 1) hkr hkr1 ekr ekr1 (by decide) (by decide) (by first | assumption | exact inI_mk (by omega) (by omega)) (by first | assumption | exact inI_mk (by omega) (by omega)) (by first | assumption | exact inI_mk (by omega) (by omega)) (by first | assumption | exact inI_mk (by omega) (by omega))) gX2_changed_X5_cell (n := 2) (hw := rfl) (hrc := rfl) (hrs := rfl) (hd := by decide +kernel) (hR := ⟨Nat.le_of_ble_eq_true rfl, Nat.le_of_ble_eq_true rfl⟩) (hn := rfl) (hst := rfl) (hsum := Nat.le_of_ble_eq_true rfl) (hdg := dX2_changed_6) ?_
  rintro _ S9 ⟨rfl, e9⟩
  rw [e9]
  clear e9 S9
  rw [tcell_in (by omega) (by omega) (by omega) (by omega)]
  refine g_at (pc2 := 9) rfl rfl (st2 := [vI (R r 1)]) rfl (S2 := S) rfl ?_
  refine g_istore_n (pc := 9) hX (lv2 := [(3, vI (R r 1)), (0, .ref (gw_ad w k)), (1, vI (r)), (2, vI (c))]) rfl (by decide) rfl dX2_changed_9 ?_
  refine g_aload_n (pc := 10) hX 1 rfl dX2_changed_10 ?_
  refine g_get (pc := 11) hX (ci := 2) (fun _ h => List.mem_cons_of_mem _ (List.mem_append_left _ (List.mem_append_right _ h))) rfl k hk ek 0 (by decide) (List.mem_of_getElem? (i := 1) rfl) rfl (v := .ref (gw_ad w kr)) rfl dX2_changed_11 ?_
  refine g_iload_n (pc := 14) hX 2 rfl dX2_changed_14 ?_
  refine g_iconst (pc := 15) hX dX2_changed_15 ?_
  refine g_callV1 (pc := 16) (ci := 5) (As := [vI (r), vI (2)]) (st2 := []) hX kr hkr ekr rfl (c_X5_cell (row := r) (col := 2) hkr hkr1 ekr ekr1 (by decide) (by decide) (by first | assumption | exact inI_mk (by omega) (by omega)) (by first | assumption | exact inI_mk (by omega) (by omega)) (by first | assumption | exact inI_mk (by omega) (by omega)) (by first | assumption | exact inI_mk (by omega) (by omega))) gX2_changed_X5_cell (n := 2) (hw := rfl) (hrc := rfl) (hrs := rfl) (hd := by decide +kernel) (hR := ⟨Nat.le_of_ble_eq_true rfl, Nat.le_of_ble_eq_true rfl⟩) (hn := rfl) (hst := rfl) (hsum := Nat.le_of_ble_eq_true rfl) (hdg := dX2_changed_16) ?_
  rintro _ S9 ⟨rfl, e9⟩
  rw [e9]
  clear e9 S9
  rw [tcell_in (by omega) (by omega) (by omega) (by omega)]
  refine g_at (pc2 := 19) rfl rfl (st2 := [vI (R r 2)]) rfl (S2 := S) rfl ?_
  refine g_i2l (pc := 19) hX (by first | assumption | exact inI_mk (by omega) (by omega)) dX2_changed_19 ?_
  refine g_lstore (pc := 20) hX (lv2 := [(4, vL (R r 2)), (3, vI (R r 1)), (0, .ref (gw_ad w k)), (1, vI (r)), (2, vI (c))]) (by decide) rfl dX2_changed_20 ?_
  refine g_iload_n (pc := 22) hX 4 rfl dX2_changed_22 ?_
  refine g_i2l (pc := 23) hX (by first | assumption | exact inI_mk (by omega) (by omega)) dX2_changed_23 ?_
  refine g_lload (pc := 24) hX 0 rfl dX2_changed_24 ?_
  refine g_lmul (pc := 26) hX dX2_changed_26 ?_
  refine g_ldc2 (pc := 27) hX (z := 1000) (List.mem_of_getElem? (i := 2) rfl) (by decide +kernel) dX2_changed_27 ?_
  refine g_ldiv (pc := 30) hX (by first | assumption | exact inL_mk (by omega) (by omega)) (by first | assumption | exact inL_mk (by omega) (by omega)) (by omega) dX2_changed_30 ?_
  refine g_lstore (pc := 31) hX (lv2 := [(6, vL ((c * (R r 2)).tdiv (1000))), (4, vL (R r 2)), (3, vI (R r 1)), (0, .ref (gw_ad w k)), (1, vI (r)), (2, vI (c))]) (by decide) rfl dX2_changed_31 ?_
  refine g_iload_n (pc := 33) hX 2 rfl dX2_changed_33 ?_
  refine g_bipush (pc := 34) hX (by decide) dX2_changed_34 ?_
  refine g_icmp_eq (pc := 36) (tgt := 60) hX (hRR r 1) (by first | assumption | exact inI_mk (by omega) (by omega)) dX2_changed_36 (by decide) (fun c_36 => ?_) (fun c_36 => ?_)
  · skip
    refine g_lconst (pc := 60) hX (z := 0) rfl dX2_changed_60 ?_
    refine g_lload (pc := 61) hX 0 rfl dX2_changed_61 ?_
    refine g_ldc2 (pc := 63) hX (z := 1000000000) (List.mem_of_getElem? (i := 3) rfl) (by decide +kernel) dX2_changed_63 ?_
    refine g_mminL (pc := 66) hX (by first | assumption | exact inL_mk (by omega) (by omega)) (by first | assumption | exact inL_mk (by omega) (by omega)) (List.mem_of_getElem? (i := 4) rfl) (List.mem_of_getElem? (i := 5) rfl) (List.mem_of_getElem? (i := 6) rfl) (List.mem_of_getElem? (i := 7) rfl) (Nat.le_of_ble_eq_true rfl) (Nat.le_of_ble_eq_true rfl) dX2_changed_66 ?_
    obtain ⟨a1, ea1⟩ : ∃ z : Int, z = (if 1000000000 < (c * (R r 2)).tdiv (1000) then 1000000000 else (c * (R r 2)).tdiv (1000)) := ⟨_, rfl⟩
    refine g_at rfl rfl (st2 := [vL (a1), vL (0)]) (by rw [ea1]) rfl ?_
    have ha1 : -100000 ≤ a1 ∧ a1 ≤ 1000000000 := by rw [ea1]; constructor <;> (split <;> omega)
    refine g_mmaxL (pc := 69) hX (by first | assumption | exact inL_mk (by omega) (by omega)) (by first | assumption | exact inL_mk (by omega) (by omega)) (List.mem_of_getElem? (i := 8) rfl) (List.mem_of_getElem? (i := 9) rfl) (List.mem_of_getElem? (i := 6) rfl) (List.mem_of_getElem? (i := 10) rfl) (Nat.le_of_ble_eq_true rfl) (Nat.le_of_ble_eq_true rfl) dX2_changed_69 ?_
    obtain ⟨b1, eb1⟩ : ∃ z : Int, z = (if 0 < a1 then a1 else 0) := ⟨_, rfl⟩
    refine g_at rfl rfl (st2 := [vL (b1)]) (by rw [eb1]) rfl ?_
    refine g_l2i (pc := 72) hX dX2_changed_72 ?_
    refine g_iret (pc := 73) hX hR dX2_changed_73 ?_
    refine ⟨vI_c ?_, rfl⟩
    unfold chgeZ
    rw [if_pos c_36, eb1, ea1, fdiv_a hmu.1]
    rfl
  · skip
    refine g_iload_n (pc := 39) hX 2 rfl dX2_changed_39 ?_
    refine g_bipush (pc := 40) hX (by decide) dX2_changed_40 ?_
    refine g_icmp_ne (pc := 42) (tgt := 53) hX (hRR r 1) (by first | assumption | exact inI_mk (by omega) (by omega)) dX2_changed_42 (by decide) (fun c_42 => ?_) (fun c_42 => ?_)
    · skip
      refine g_iload_n (pc := 53) hX 5 rfl dX2_changed_53 ?_
      refine g_i2l (pc := 54) hX (by first | assumption | exact inI_mk (by omega) (by omega)) dX2_changed_54 ?_
      refine g_lload (pc := 55) hX 1 rfl dX2_changed_55 ?_
      refine g_lsub (pc := 57) hX dX2_changed_57 ?_
      refine g_lstore (pc := 58) hX (lv2 := [(6, vL (c - (R r 2))), (4, vL (R r 2)), (3, vI (R r 1)), (0, .ref (gw_ad w k)), (1, vI (r)), (2, vI (c))]) (by decide) rfl dX2_changed_58 ?_
      refine g_lconst (pc := 60) hX (z := 0) rfl dX2_changed_60 ?_
      refine g_lload (pc := 61) hX 0 rfl dX2_changed_61 ?_
      refine g_ldc2 (pc := 63) hX (z := 1000000000) (List.mem_of_getElem? (i := 3) rfl) (by decide +kernel) dX2_changed_63 ?_
      refine g_mminL (pc := 66) hX (by first | assumption | exact inL_mk (by omega) (by omega)) (by first | assumption | exact inL_mk (by omega) (by omega)) (List.mem_of_getElem? (i := 4) rfl) (List.mem_of_getElem? (i := 5) rfl) (List.mem_of_getElem? (i := 6) rfl) (List.mem_of_getElem? (i := 7) rfl) (Nat.le_of_ble_eq_true rfl) (Nat.le_of_ble_eq_true rfl) dX2_changed_66 ?_
      obtain ⟨a1, ea1⟩ : ∃ z : Int, z = (if 1000000000 < c - (R r 2) then 1000000000 else c - (R r 2)) := ⟨_, rfl⟩
      refine g_at rfl rfl (st2 := [vL (a1), vL (0)]) (by rw [ea1]) rfl ?_
      have ha1 : -100000 ≤ a1 ∧ a1 ≤ 1000000000 := by rw [ea1]; constructor <;> (split <;> omega)
      refine g_mmaxL (pc := 69) hX (by first | assumption | exact inL_mk (by omega) (by omega)) (by first | assumption | exact inL_mk (by omega) (by omega)) (List.mem_of_getElem? (i := 8) rfl) (List.mem_of_getElem? (i := 9) rfl) (List.mem_of_getElem? (i := 6) rfl) (List.mem_of_getElem? (i := 10) rfl) (Nat.le_of_ble_eq_true rfl) (Nat.le_of_ble_eq_true rfl) dX2_changed_69 ?_
      obtain ⟨b1, eb1⟩ : ∃ z : Int, z = (if 0 < a1 then a1 else 0) := ⟨_, rfl⟩
      refine g_at rfl rfl (st2 := [vL (b1)]) (by rw [eb1]) rfl ?_
      refine g_l2i (pc := 72) hX dX2_changed_72 ?_
      refine g_iret (pc := 73) hX hR dX2_changed_73 ?_
      refine ⟨vI_c ?_, rfl⟩
      unfold chgeZ
      rw [if_neg c_36, if_neg c_42, eb1, ea1]
      rfl
    · skip
      refine g_iload_n (pc := 45) hX 5 rfl dX2_changed_45 ?_
      refine g_i2l (pc := 46) hX (by first | assumption | exact inI_mk (by omega) (by omega)) dX2_changed_46 ?_
      refine g_lload (pc := 47) hX 1 rfl dX2_changed_47 ?_
      refine g_ladd (pc := 49) hX dX2_changed_49 ?_
      refine g_goto (pc := 50) (tgt := 58) hX dX2_changed_50 (by decide) ?_
      refine g_lstore (pc := 58) hX (lv2 := [(6, vL (c + (R r 2))), (4, vL (R r 2)), (3, vI (R r 1)), (0, .ref (gw_ad w k)), (1, vI (r)), (2, vI (c))]) (by decide) rfl dX2_changed_58 ?_
      refine g_lconst (pc := 60) hX (z := 0) rfl dX2_changed_60 ?_
      refine g_lload (pc := 61) hX 0 rfl dX2_changed_61 ?_
      refine g_ldc2 (pc := 63) hX (z := 1000000000) (List.mem_of_getElem? (i := 3) rfl) (by decide +kernel) dX2_changed_63 ?_
      refine g_mminL (pc := 66) hX (by first | assumption | exact inL_mk (by omega) (by omega)) (by first | assumption | exact inL_mk (by omega) (by omega)) (List.mem_of_getElem? (i := 4) rfl) (List.mem_of_getElem? (i := 5) rfl) (List.mem_of_getElem? (i := 6) rfl) (List.mem_of_getElem? (i := 7) rfl) (Nat.le_of_ble_eq_true rfl) (Nat.le_of_ble_eq_true rfl) dX2_changed_66 ?_
      obtain ⟨a1, ea1⟩ : ∃ z : Int, z = (if 1000000000 < c + (R r 2) then 1000000000 else c + (R r 2)) := ⟨_, rfl⟩
      refine g_at rfl rfl (st2 := [vL (a1), vL (0)]) (by rw [ea1]) rfl ?_
      have ha1 : -100000 ≤ a1 ∧ a1 ≤ 1000000000 := by rw [ea1]; constructor <;> (split <;> omega)
      refine g_mmaxL (pc := 69) hX (by first | assumption | exact inL_mk (by omega) (by omega)) (by first | assumption | exact inL_mk (by omega) (by omega)) (List.mem_of_getElem? (i := 8) rfl) (List.mem_of_getElem? (i := 9) rfl) (List.mem_of_getElem? (i := 6) rfl) (List.mem_of_getElem? (i := 10) rfl) (Nat.le_of_ble_eq_true rfl) (Nat.le_of_ble_eq_true rfl) dX2_changed_69 ?_
      obtain ⟨b1, eb1⟩ : ∃ z : Int, z = (if 0 < a1 then a1 else 0) := ⟨_, rfl⟩
      refine g_at rfl rfl (st2 := [vL (b1)]) (by rw [eb1]) rfl ?_
      refine g_l2i (pc := 72) hX dX2_changed_72 ?_
      refine g_iret (pc := 73) hX hR dX2_changed_73 ?_
      refine ⟨vI_c ?_, rfl⟩
      unfold chgeZ
      rw [if_neg c_36, if_pos c_42, eb1, ea1]
      rfl

set_option maxHeartbeats 4000000 in
set_option maxRecDepth 100000 in
theorem c_X2_holds {w : gW} {l : Launch} {S : Nat → va_E} {k kr kr1 : Nat} {nR : Int} {R : Int → Int → Int} (hk : k < gw_N w) (hkr : kr < gw_N w) (hkr1 : kr1 < gw_N w) (ek : S k = OU w kr) (ekr : S kr = OT w 8 63 kr1 nR) (ekr1 : S kr1 = AT w 504 63 R) {t t1 n : Nat} {rm cn : Int} {P : Int → Int → Int} (ht : t < gw_N w) (ht1 : t1 < gw_N w) (et : S t = OT w rm 22 t1 cn) (et1 : S t1 = AT w n 22 P) (hn : rm * 22 ≤ n) (hn2 : n ≤ 2147483647) (hrm : inI rm) {row : Int} (hr0 : 0 ≤ row) (hr1 : row < rm) (hP : ∀ i j, inI (P i j)) (hRR : ∀ i j, inI (R i j)) {r : Int} (q0 : 0 ≤ r) (q8 : r < 8) (hcn : 0 ≤ R r 0 ∧ R r 0 ≤ 60) :
    GM1 w l yX2_holds wsX2_holds { frames := 2, cells := 0, slots := 0, locals := 46 } [.ref (gw_ad w k), vI (r), .ref (gw_ad w t), vI (row)] S
      (fun v S' => v = vI (bz (holdsZ (fact P rm row) R r)) ∧ S' = S) := by
  refine GM.start (own := RX2) (n := "holds") (d := "(ILParcelDesk$Table;I)Z") (by decide) rfl (Nat.le_of_ble_eq_true rfl) ?_
  intro X hX hR hXl
  subst hXl
  refine g_at rfl (lv2 := [(0, .ref (gw_ad w k)), (1, vI (r)), (2, .ref (gw_ad w t)), (3, vI (row))]) rfl rfl rfl ?_
  have hrow : inI row := by have := hrm.2; exact inI_mk (by omega) (by omega)
  refine g_iconst (pc := 0) hX dX2_holds_0 ?_
  refine g_istore (pc := 1) hX (lv2 := [(4, vI (0)), (0, .ref (gw_ad w k)), (1, vI (r)), (2, .ref (gw_ad w t)), (3, vI (row))]) (by decide) rfl dX2_holds_1 ?_
  refine g_iconst (pc := 3) hX dX2_holds_3 ?_
  refine g_istore (pc := 4) hX (lv2 := [(5, vI (1)), (4, vI (0)), (0, .ref (gw_ad w k)), (1, vI (r)), (2, .ref (gw_ad w t)), (3, vI (row))]) (by decide) rfl dX2_holds_4 ?_
  refine g_iconst (pc := 6) hX dX2_holds_6 ?_
  refine g_istore (pc := 7) hX (lv2 := [(6, vI (0)), (5, vI (1)), (4, vI (0)), (0, .ref (gw_ad w k)), (1, vI (r)), (2, .ref (gw_ad w t)), (3, vI (row))]) (by decide) rfl dX2_holds_7 ?_
  refine g_lconst (pc := 9) hX (z := 0) rfl dX2_holds_9 ?_
  refine g_lstore (pc := 10) hX (lv2 := [(7, vL (0)), (6, vI (0)), (5, vI (1)), (4, vI (0)), (0, .ref (gw_ad w k)), (1, vI (r)), (2, .ref (gw_ad w t)), (3, vI (row))]) (by decide) rfl dX2_holds_10 ?_
  refine g_lconst (pc := 12) hX (z := 0) rfl dX2_holds_12 ?_
  refine g_lstore (pc := 13) hX (lv2 := [(9, vL (0)), (7, vL (0)), (6, vI (0)), (5, vI (1)), (4, vI (0)), (0, .ref (gw_ad w k)), (1, vI (r)), (2, .ref (gw_ad w t)), (3, vI (row))]) (by decide) rfl dX2_holds_13 ?_
  refine g_lconst (pc := 15) hX (z := 0) rfl dX2_holds_15 ?_
  refine g_lstore (pc := 16) hX (lv2 := [(11, vL (0)), (9, vL (0)), (7, vL (0)), (6, vI (0)), (5, vI (1)), (4, vI (0)), (0, .ref (gw_ad w k)), (1, vI (r)), (2, .ref (gw_ad w t)), (3, vI (row))]) (by decide) rfl dX2_holds_16 ?_
  refine g_aload_n (pc := 18) hX 6 rfl dX2_holds_18 ?_
  refine g_get (pc := 19) hX (ci := 2) (fun _ h => List.mem_cons_of_mem _ (List.mem_append_left _ (List.mem_append_right _ h))) rfl k hk ek 0 (by decide) (List.mem_of_getElem? (i := 1) rfl) rfl (v := .ref (gw_ad w kr)) rfl dX2_holds_19 ?_
  refine g_iload_n (pc := 22) hX 7 rfl dX2_holds_22 ?_
  refine g_iconst (pc := 23) hX dX2_holds_23 ?_
  refine g_callV1 (pc := 24) (ci := 5) (As := [vI (r), vI (0)]) (st2 := []) hX kr hkr ekr rfl (c_X5_cell (row := r) (col := 0) hkr hkr1 ekr ekr1 (by decide) (by decide) (by first | assumption | exact inI_mk (by omega) (by omega)) (by first | assumption | exact inI_mk (by omega) (by omega)) (by first | assumption | exact inI_mk (by omega) (by omega)) (by first | assumption | exact inI_mk (by omega) (by omega))) gX2_holds_X5_cell (n := 2) (hw := rfl) (hrc := rfl) (hrs := rfl) (hd := by decide +kernel) (hR := ⟨Nat.le_of_ble_eq_true rfl, Nat.le_of_ble_eq_true rfl⟩) (hn := rfl) (hst := rfl) (hsum := Nat.le_of_ble_eq_true rfl) (hdg := dX2_holds_24) ?_
  rintro _ S9 ⟨rfl, e9⟩
  rw [e9]
  clear e9 S9
  rw [tcell_in (by omega) (by omega) (by omega) (by omega)]
  refine g_at (pc2 := 27) rfl rfl (st2 := [vI (R r 0)]) rfl (S2 := S) rfl ?_
  refine g_istore (pc := 27) hX (lv2 := [(13, vI (R r 0)), (11, vL (0)), (9, vL (0)), (7, vL (0)), (6, vI (0)), (5, vI (1)), (4, vI (0)), (0, .ref (gw_ad w k)), (1, vI (r)), (2, .ref (gw_ad w t)), (3, vI (row))]) (by decide) rfl dX2_holds_27 ?_
  refine g_iconst (pc := 29) hX dX2_holds_29 ?_
  refine g_istore (pc := 30) hX (lv2 := [(14, vI (0)), (13, vI (R r 0)), (11, vL (0)), (9, vL (0)), (7, vL (0)), (6, vI (0)), (5, vI (1)), (4, vI (0)), (0, .ref (gw_ad w k)), (1, vI (r)), (2, .ref (gw_ad w t)), (3, vI (row))]) (by decide) rfl dX2_holds_30 ?_
  have loop : ∀ (n0 : Nat) (c : Int) (a : Bool) (b : Bool) (n0_ : Bool) (fr : List evF), 0 ≤ c → c ≤ R r 0 → R r 0 - c < n0 → (evN (fact P rm row) (fun i => R r (3 + i)) (c : Int).toNat = ((a, b, n0_), fr)) → G w { frames := 2, cells := 0, slots := 0, locals := 46 } X 17 32 [(14, vI (c)), (0, .ref (gw_ad w k)), (1, vI (r)), (2, .ref (gw_ad w t)), (3, vI (row)), (4, vI (bz (a))), (5, vI (bz (b))), (6, vI (bz (n0_))), (7, vL (enc pA fr)), (9, vL (enc pL fr)), (11, vL (enc pN fr)), (13, vI (R r 0))] [] S := by
    intro n0
    induction n0 with
    | zero => intro c a b n0_ fr h1c h2c h3c; exact absurd h3c (by omega)
    | succ n0 ihloop =>
      intro c a b n0_ fr h1c h2c h3c es
      have hc : inI c := inI_mk (by omega) (by omega)
      have hlen : fr.length ≤ 60 := by have := evN_len (fact P rm row) (fun i => R r (3 + i)) c.toNat; rw [es] at this; exact Nat.le_trans this (by omega)
      have htk := hRR r (3 + c)
      refine g_iload (pc := 32) hX 0 rfl dX2_holds_32 ?_
      refine g_iload (pc := 34) hX 11 rfl dX2_holds_34 ?_
      refine g_icmp_ge (pc := 36) (tgt := 269) hX (by first | assumption | exact inI_mk (by omega) (by omega)) (by first | assumption | exact inI_mk (by omega) (by omega)) dX2_holds_36 (by decide) (fun c_36 => ?_) (fun c_36 => ?_)
      · skip
        refine g_iload (pc := 269) hX 5 rfl dX2_holds_269 ?_
        refine g_bif_ne (pc := 271) (tgt := 279) hX dX2_holds_271 (by decide) (fun c_271 => ?_) (fun c_271 => ?_)
        · skip
          refine g_iconst (pc := 279) hX dX2_holds_279 ?_
          refine g_goto (pc := 280) (tgt := 284) hX dX2_holds_280 (by decide) ?_
          refine g_at rfl rfl (st2 := [vI (bz true)]) rfl rfl ?_
          refine g_zret (pc := 284) hX hR dX2_holds_284 ?_
          rw [show c = R r 0 by omega] at es
          exact ⟨vB_t (by unfold holdsZ; rw [es]; simp [c_271]), rfl⟩
        · skip
          refine g_iload (pc := 274) hX 6 rfl dX2_holds_274 ?_
          refine g_bif_eq (pc := 276) (tgt := 283) hX dX2_holds_276 (by decide) (fun c_276 => ?_) (fun c_276 => ?_)
          · skip
            refine g_iconst (pc := 283) hX dX2_holds_283 ?_
            refine g_at rfl rfl (st2 := [vI (bz false)]) rfl rfl ?_
            refine g_zret (pc := 284) hX hR dX2_holds_284 ?_
            rw [show c = R r 0 by omega] at es
            exact ⟨vB_f (by unfold holdsZ; rw [es]; simp [c_271, c_276]), rfl⟩
          · skip
            refine g_iconst (pc := 279) hX dX2_holds_279 ?_
            refine g_goto (pc := 280) (tgt := 284) hX dX2_holds_280 (by decide) ?_
            refine g_at rfl rfl (st2 := [vI (bz true)]) rfl rfl ?_
            refine g_zret (pc := 284) hX hR dX2_holds_284 ?_
            rw [show c = R r 0 by omega] at es
            exact ⟨vB_t (by unfold holdsZ; rw [es]; simp [c_271, c_276]), rfl⟩
      · skip
        refine g_aload_n (pc := 39) hX 1 rfl dX2_holds_39 ?_
        refine g_get (pc := 40) hX (ci := 2) (fun _ h => List.mem_cons_of_mem _ (List.mem_append_left _ (List.mem_append_right _ h))) rfl k hk ek 0 (by decide) (List.mem_of_getElem? (i := 1) rfl) rfl (v := .ref (gw_ad w kr)) rfl dX2_holds_40 ?_
        refine g_iload_n (pc := 43) hX 2 rfl dX2_holds_43 ?_
        refine g_iconst (pc := 44) hX dX2_holds_44 ?_
        refine g_iload (pc := 45) hX 0 rfl dX2_holds_45 ?_
        refine g_iadd (pc := 47) hX dX2_holds_47 ?_
        refine g_callV1 (pc := 48) (ci := 5) (As := [vI (r), vI (3 + c)]) (st2 := []) hX kr hkr ekr rfl (c_X5_cell (row := r) (col := 3 + c) hkr hkr1 ekr ekr1 (by decide) (by decide) (by first | assumption | exact inI_mk (by omega) (by omega)) (by first | assumption | exact inI_mk (by omega) (by omega)) (by first | assumption | exact inI_mk (by omega) (by omega)) (by first | assumption | exact inI_mk (by omega) (by omega))) gX2_holds_X5_cell (n := 2) (hw := rfl) (hrc := rfl) (hrs := rfl) (hd := by decide +kernel) (hR := ⟨Nat.le_of_ble_eq_true rfl, Nat.le_of_ble_eq_true rfl⟩) (hn := rfl) (hst := rfl) (hsum := Nat.le_of_ble_eq_true rfl) (hdg := dX2_holds_48) ?_
        rintro _ S9 ⟨rfl, e9⟩
        rw [e9]
        clear e9 S9
        rw [tcell_in (by omega) (by omega) (by omega) (by omega)]
        refine g_at (pc2 := 51) rfl rfl (st2 := [vI (R r (3 + c))]) rfl (S2 := S) rfl ?_
        refine g_istore (pc := 51) hX (lv2 := [(15, vI (R r (3 + c))), (14, vI (c)), (0, .ref (gw_ad w k)), (1, vI (r)), (2, .ref (gw_ad w t)), (3, vI (row)), (4, vI (bz (a))), (5, vI (bz (b))), (6, vI (bz (n0_))), (7, vL (enc pA fr)), (9, vL (enc pL fr)), (11, vL (enc pN fr)), (13, vI (R r 0))]) (by decide) rfl dX2_holds_51 ?_
        refine g_iload (pc := 53) hX 0 rfl dX2_holds_53 ?_
        refine g_bipush (pc := 55) hX (by decide) dX2_holds_55 ?_
        refine g_icmp_ne (pc := 57) (tgt := 75) hX htk (by first | assumption | exact inI_mk (by omega) (by omega)) dX2_holds_57 (by decide) (fun c_57 => ?_) (fun c_57 => ?_)
        · skip
          refine g_iload (pc := 75) hX 0 rfl dX2_holds_75 ?_
          refine g_bipush (pc := 77) hX (by decide) dX2_holds_77 ?_
          refine g_icmp_ne (pc := 79) (tgt := 121) hX htk (by first | assumption | exact inI_mk (by omega) (by omega)) dX2_holds_79 (by decide) (fun c_79 => ?_) (fun c_79 => ?_)
          · skip
            refine g_iload (pc := 121) hX 0 rfl dX2_holds_121 ?_
            refine g_bipush (pc := 123) hX (by decide) dX2_holds_123 ?_
            refine g_icmp_ne (pc := 125) (tgt := 151) hX htk (by first | assumption | exact inI_mk (by omega) (by omega)) dX2_holds_125 (by decide) (fun c_125 => ?_) (fun c_125 => ?_)
            · skip
              refine g_iload (pc := 151) hX 0 rfl dX2_holds_151 ?_
              refine g_bipush (pc := 153) hX (by decide) dX2_holds_153 ?_
              refine g_icmp_ne (pc := 155) (tgt := 231) hX htk (by first | assumption | exact inI_mk (by omega) (by omega)) dX2_holds_155 (by decide) (fun c_155 => ?_) (fun c_155 => ?_)
              · skip
                refine g_iload (pc := 231) hX 0 rfl dX2_holds_231 ?_
                refine g_if_lt (pc := 233) (tgt := 263) hX htk dX2_holds_233 (by decide) (fun c_233 => ?_) (fun c_233 => ?_)
                · skip
                  refine g_iinc (pc := 263) hX (lv2 := [(14, vI (c + 1)), (15, vI (R r (3 + c))), (0, .ref (gw_ad w k)), (1, vI (r)), (2, .ref (gw_ad w t)), (3, vI (row)), (4, vI (bz (a))), (5, vI (bz (b))), (6, vI (bz (n0_))), (7, vL (enc pA fr)), (9, vL (enc pL fr)), (11, vL (enc pN fr)), (13, vI (R r 0))]) 1 rfl (by decide) rfl dX2_holds_263 ?_
                  refine g_goto (pc := 266) (tgt := 32) hX dX2_holds_266 (by decide) ?_
                  refine g_sub (lv2 := [(14, vI (c + 1)), (0, .ref (gw_ad w k)), (1, vI (r)), (2, .ref (gw_ad w t)), (3, vI (row)), (4, vI (bz (a))), (5, vI (bz (b))), (6, vI (bz (n0_))), (7, vL (enc pA fr)), (9, vL (enc pL fr)), (11, vL (enc pN fr)), (13, vI (R r 0))]) [0, 2, 3, 4, 5, 6, 7, 8, 9, 10, 11, 12] rfl ?_
                  refine g_at rfl (lv2 := [(14, vI (c + 1)), (0, .ref (gw_ad w k)), (1, vI (r)), (2, .ref (gw_ad w t)), (3, vI (row)), (4, vI (bz (a))), (5, vI (bz (b))), (6, vI (bz (n0_))), (7, vL (enc pA fr)), (9, vL (enc pL fr)), (11, vL (enc pN fr)), (13, vI (R r 0))]) (rfl) rfl (S2 := S) (rfl) ?_
                  exact ihloop (c + 1) (a) (b) (n0_) (fr) (by omega) (by omega) (by omega) (by rw [evN_s _ _ h1c, es]; simp [ev1, c_36, c_57, c_79, c_125, c_155, c_233, Int.not_le.mpr c_233])
                · skip
                  refine g_iload (pc := 236) hX 7 rfl dX2_holds_236 ?_
                  refine g_bif_eq (pc := 238) (tgt := 257) hX dX2_holds_238 (by decide) (fun c_238 => ?_) (fun c_238 => ?_)
                  · skip
                    refine g_iconst (pc := 257) hX dX2_holds_257 ?_
                    refine g_istore (pc := 258) hX (lv2 := [(5, vI (0)), (15, vI (R r (3 + c))), (14, vI (c)), (0, .ref (gw_ad w k)), (1, vI (r)), (2, .ref (gw_ad w t)), (3, vI (row)), (4, vI (bz (a))), (6, vI (bz (n0_))), (7, vL (enc pA fr)), (9, vL (enc pL fr)), (11, vL (enc pN fr)), (13, vI (R r 0))]) (by decide) rfl dX2_holds_258 ?_
                    refine g_iconst (pc := 260) hX dX2_holds_260 ?_
                    refine g_istore (pc := 261) hX (lv2 := [(6, vI (0)), (5, vI (0)), (15, vI (R r (3 + c))), (14, vI (c)), (0, .ref (gw_ad w k)), (1, vI (r)), (2, .ref (gw_ad w t)), (3, vI (row)), (4, vI (bz (a))), (7, vL (enc pA fr)), (9, vL (enc pL fr)), (11, vL (enc pN fr)), (13, vI (R r 0))]) (by decide) rfl dX2_holds_261 ?_
                    refine g_iinc (pc := 263) hX (lv2 := [(14, vI (c + 1)), (6, vI (0)), (5, vI (0)), (15, vI (R r (3 + c))), (0, .ref (gw_ad w k)), (1, vI (r)), (2, .ref (gw_ad w t)), (3, vI (row)), (4, vI (bz (a))), (7, vL (enc pA fr)), (9, vL (enc pL fr)), (11, vL (enc pN fr)), (13, vI (R r 0))]) 3 rfl (by decide) rfl dX2_holds_263 ?_
                    refine g_goto (pc := 266) (tgt := 32) hX dX2_holds_266 (by decide) ?_
                    refine g_sub (lv2 := [(14, vI (c + 1)), (0, .ref (gw_ad w k)), (1, vI (r)), (2, .ref (gw_ad w t)), (3, vI (row)), (4, vI (bz (a))), (5, vI (0)), (6, vI (0)), (7, vL (enc pA fr)), (9, vL (enc pL fr)), (11, vL (enc pN fr)), (13, vI (R r 0))]) [0, 4, 5, 6, 7, 8, 2, 1, 9, 10, 11, 12] rfl ?_
                    refine g_at rfl (lv2 := [(14, vI (c + 1)), (0, .ref (gw_ad w k)), (1, vI (r)), (2, .ref (gw_ad w t)), (3, vI (row)), (4, vI (bz (a))), (5, vI (0)), (6, vI (0)), (7, vL (enc pA fr)), (9, vL (enc pL fr)), (11, vL (enc pN fr)), (13, vI (R r 0))]) (rfl) rfl (S2 := S) (rfl) ?_
                    exact ihloop (c + 1) (a) (false) (false) (fr) (by omega) (by omega) (by omega) (by rw [evN_s _ _ h1c, es]; simp [ev1, c_36, c_57, c_79, c_125, c_155, c_233, c_238])
                  · skip
                    refine g_iload (pc := 241) hX 0 rfl dX2_holds_241 ?_
                    refine g_aload_n (pc := 243) hX 4 rfl dX2_holds_243 ?_
                    refine g_iload_n (pc := 244) hX 5 rfl dX2_holds_244 ?_
                    refine g_callT1 (pc := 245) (As := [vI (R r (3 + c)), .ref (gw_ad w t), vI (row)]) (st2 := []) hX (c_X2_compares (tk := R r (3 + c)) (row := row) ht ht1 et et1 hn hn2 hrm hr0 hr1 hP c_233 htk) gX2_holds_X2_compares (n := 3) (hw := rfl) (hrc := rfl) (hrs := rfl) (hd := by decide +kernel) (hR := ⟨Nat.le_of_ble_eq_true rfl, Nat.le_of_ble_eq_true rfl⟩) (hn := rfl) (hst := rfl) (hsum := Nat.le_of_ble_eq_true rfl) (hdg := dX2_holds_245) ?_
                    rintro _ S9 ⟨rfl, e9⟩
                    rw [e9]
                    clear e9 S9
                    refine g_at (pc2 := 248) rfl rfl (st2 := [vI (bz (fact P rm row (R r (3 + c))))]) rfl (S2 := S) rfl ?_
                    refine g_iload (pc := 248) hX 8 rfl dX2_holds_248 ?_
                    refine g_bcmp_eq (pc := 250) (tgt := 257) (a := fact P rm row (R r (3 + c))) (b := n0_) hX dX2_holds_250 (by decide) (fun c_250 => ?_) (fun c_250 => ?_)
                    · skip
                      refine g_iconst (pc := 257) hX dX2_holds_257 ?_
                      refine g_istore (pc := 258) hX (lv2 := [(5, vI (0)), (15, vI (R r (3 + c))), (14, vI (c)), (0, .ref (gw_ad w k)), (1, vI (r)), (2, .ref (gw_ad w t)), (3, vI (row)), (4, vI (bz (a))), (6, vI (bz (n0_))), (7, vL (enc pA fr)), (9, vL (enc pL fr)), (11, vL (enc pN fr)), (13, vI (R r 0))]) (by decide) rfl dX2_holds_258 ?_
                      refine g_iconst (pc := 260) hX dX2_holds_260 ?_
                      refine g_istore (pc := 261) hX (lv2 := [(6, vI (0)), (5, vI (0)), (15, vI (R r (3 + c))), (14, vI (c)), (0, .ref (gw_ad w k)), (1, vI (r)), (2, .ref (gw_ad w t)), (3, vI (row)), (4, vI (bz (a))), (7, vL (enc pA fr)), (9, vL (enc pL fr)), (11, vL (enc pN fr)), (13, vI (R r 0))]) (by decide) rfl dX2_holds_261 ?_
                      refine g_iinc (pc := 263) hX (lv2 := [(14, vI (c + 1)), (6, vI (0)), (5, vI (0)), (15, vI (R r (3 + c))), (0, .ref (gw_ad w k)), (1, vI (r)), (2, .ref (gw_ad w t)), (3, vI (row)), (4, vI (bz (a))), (7, vL (enc pA fr)), (9, vL (enc pL fr)), (11, vL (enc pN fr)), (13, vI (R r 0))]) 3 rfl (by decide) rfl dX2_holds_263 ?_
                      refine g_goto (pc := 266) (tgt := 32) hX dX2_holds_266 (by decide) ?_
                      refine g_sub (lv2 := [(14, vI (c + 1)), (0, .ref (gw_ad w k)), (1, vI (r)), (2, .ref (gw_ad w t)), (3, vI (row)), (4, vI (bz (a))), (5, vI (0)), (6, vI (0)), (7, vL (enc pA fr)), (9, vL (enc pL fr)), (11, vL (enc pN fr)), (13, vI (R r 0))]) [0, 4, 5, 6, 7, 8, 2, 1, 9, 10, 11, 12] rfl ?_
                      refine g_at rfl (lv2 := [(14, vI (c + 1)), (0, .ref (gw_ad w k)), (1, vI (r)), (2, .ref (gw_ad w t)), (3, vI (row)), (4, vI (bz (a))), (5, vI (0)), (6, vI (0)), (7, vL (enc pA fr)), (9, vL (enc pL fr)), (11, vL (enc pN fr)), (13, vI (R r 0))]) (rfl) rfl (S2 := S) (rfl) ?_
                      exact ihloop (c + 1) (a) (false) (false) (fr) (by omega) (by omega) (by omega) (by rw [evN_s _ _ h1c, es]; simp [ev1, c_36, c_57, c_79, c_125, c_155, c_233, c_238, c_250])
                    · skip
                      refine g_iconst (pc := 253) hX dX2_holds_253 ?_
                      refine g_goto (pc := 254) (tgt := 258) hX dX2_holds_254 (by decide) ?_
                      refine g_istore (pc := 258) hX (lv2 := [(5, vI (1)), (15, vI (R r (3 + c))), (14, vI (c)), (0, .ref (gw_ad w k)), (1, vI (r)), (2, .ref (gw_ad w t)), (3, vI (row)), (4, vI (bz (a))), (6, vI (bz (n0_))), (7, vL (enc pA fr)), (9, vL (enc pL fr)), (11, vL (enc pN fr)), (13, vI (R r 0))]) (by decide) rfl dX2_holds_258 ?_
                      refine g_iconst (pc := 260) hX dX2_holds_260 ?_
                      refine g_istore (pc := 261) hX (lv2 := [(6, vI (0)), (5, vI (1)), (15, vI (R r (3 + c))), (14, vI (c)), (0, .ref (gw_ad w k)), (1, vI (r)), (2, .ref (gw_ad w t)), (3, vI (row)), (4, vI (bz (a))), (7, vL (enc pA fr)), (9, vL (enc pL fr)), (11, vL (enc pN fr)), (13, vI (R r 0))]) (by decide) rfl dX2_holds_261 ?_
                      refine g_iinc (pc := 263) hX (lv2 := [(14, vI (c + 1)), (6, vI (0)), (5, vI (1)), (15, vI (R r (3 + c))), (0, .ref (gw_ad w k)), (1, vI (r)), (2, .ref (gw_ad w t)), (3, vI (row)), (4, vI (bz (a))), (7, vL (enc pA fr)), (9, vL (enc pL fr)), (11, vL (enc pN fr)), (13, vI (R r 0))]) 3 rfl (by decide) rfl dX2_holds_263 ?_
                      refine g_goto (pc := 266) (tgt := 32) hX dX2_holds_266 (by decide) ?_
                      refine g_sub (lv2 := [(14, vI (c + 1)), (0, .ref (gw_ad w k)), (1, vI (r)), (2, .ref (gw_ad w t)), (3, vI (row)), (4, vI (bz (a))), (5, vI (1)), (6, vI (0)), (7, vL (enc pA fr)), (9, vL (enc pL fr)), (11, vL (enc pN fr)), (13, vI (R r 0))]) [0, 4, 5, 6, 7, 8, 2, 1, 9, 10, 11, 12] rfl ?_
                      refine g_at rfl (lv2 := [(14, vI (c + 1)), (0, .ref (gw_ad w k)), (1, vI (r)), (2, .ref (gw_ad w t)), (3, vI (row)), (4, vI (bz (a))), (5, vI (1)), (6, vI (0)), (7, vL (enc pA fr)), (9, vL (enc pL fr)), (11, vL (enc pN fr)), (13, vI (R r 0))]) (rfl) rfl (S2 := S) (rfl) ?_
                      exact ihloop (c + 1) (a) (true) (false) (fr) (by omega) (by omega) (by omega) (by rw [evN_s _ _ h1c, es]; simp [ev1, c_36, c_57, c_79, c_125, c_155, c_233, c_238, c_250])
              · skip
                refine g_iload (pc := 158) hX 6 rfl dX2_holds_158 ?_
                refine g_bif_ne (pc := 160) (tgt := 168) hX dX2_holds_160 (by decide) (fun c_160 => ?_) (fun c_160 => ?_)
                · skip
                  refine g_iconst (pc := 168) hX dX2_holds_168 ?_
                  refine g_goto (pc := 169) (tgt := 173) hX dX2_holds_169 (by decide) ?_
                  refine g_istore (pc := 173) hX (lv2 := [(16, vI (1)), (15, vI (R r (3 + c))), (14, vI (c)), (0, .ref (gw_ad w k)), (1, vI (r)), (2, .ref (gw_ad w t)), (3, vI (row)), (4, vI (bz (a))), (5, vI (bz (b))), (6, vI (bz (n0_))), (7, vL (enc pA fr)), (9, vL (enc pL fr)), (11, vL (enc pN fr)), (13, vI (R r 0))]) (by decide) rfl dX2_holds_173 ?_
                  refine g_lload (pc := 175) hX 10 rfl dX2_holds_175 ?_
                  refine g_callT1 (pc := 177) (As := [vL (enc pA fr)]) (st2 := []) hX (c_X2_isSet (x := enc pA fr) (enc_b pA hlen).1 (by have := (enc_b pA hlen).2; omega)) gX2_holds_X2_isSet (n := 1) (hw := rfl) (hrc := rfl) (hrs := rfl) (hd := by decide +kernel) (hR := ⟨Nat.le_of_ble_eq_true rfl, Nat.le_of_ble_eq_true rfl⟩) (hn := rfl) (hst := rfl) (hsum := Nat.le_of_ble_eq_true rfl) (hdg := dX2_holds_177) ?_
                  rintro _ S9 ⟨rfl, e9⟩
                  rw [e9]
                  clear e9 S9
                  rw [enc_odd pA fr rfl]
                  refine g_at (pc2 := 180) rfl rfl (st2 := [vI (bz (pA (fhd fr)))]) rfl (S2 := S) rfl ?_
                  refine g_istore (pc := 180) hX (lv2 := [(4, vI (bz (pA (fhd fr)))), (16, vI (1)), (15, vI (R r (3 + c))), (14, vI (c)), (0, .ref (gw_ad w k)), (1, vI (r)), (2, .ref (gw_ad w t)), (3, vI (row)), (5, vI (bz (b))), (6, vI (bz (n0_))), (7, vL (enc pA fr)), (9, vL (enc pL fr)), (11, vL (enc pN fr)), (13, vI (R r 0))]) (by decide) rfl dX2_holds_180 ?_
                  refine g_lload (pc := 182) hX 11 rfl dX2_holds_182 ?_
                  refine g_callT1 (pc := 184) (As := [vL (enc pL fr)]) (st2 := []) hX (c_X2_isSet (x := enc pL fr) (enc_b pL hlen).1 (by have := (enc_b pL hlen).2; omega)) gX2_holds_X2_isSet (n := 1) (hw := rfl) (hrc := rfl) (hrs := rfl) (hd := by decide +kernel) (hR := ⟨Nat.le_of_ble_eq_true rfl, Nat.le_of_ble_eq_true rfl⟩) (hn := rfl) (hst := rfl) (hsum := Nat.le_of_ble_eq_true rfl) (hdg := dX2_holds_184) ?_
                  rintro _ S9 ⟨rfl, e9⟩
                  rw [e9]
                  clear e9 S9
                  rw [enc_odd pL fr rfl]
                  refine g_at (pc2 := 187) rfl rfl (st2 := [vI (bz (pL (fhd fr)))]) rfl (S2 := S) rfl ?_
                  refine g_bif_eq (pc := 187) (tgt := 204) hX dX2_holds_187 (by decide) (fun c_187 => ?_) (fun c_187 => ?_)
                  · skip
                    refine g_iconst (pc := 204) hX dX2_holds_204 ?_
                    refine g_istore (pc := 205) hX (lv2 := [(5, vI (0)), (4, vI (bz (pA (fhd fr)))), (16, vI (1)), (15, vI (R r (3 + c))), (14, vI (c)), (0, .ref (gw_ad w k)), (1, vI (r)), (2, .ref (gw_ad w t)), (3, vI (row)), (6, vI (bz (n0_))), (7, vL (enc pA fr)), (9, vL (enc pL fr)), (11, vL (enc pN fr)), (13, vI (R r 0))]) (by decide) rfl dX2_holds_205 ?_
                    refine g_iconst (pc := 207) hX dX2_holds_207 ?_
                    refine g_istore (pc := 208) hX (lv2 := [(6, vI (0)), (5, vI (0)), (4, vI (bz (pA (fhd fr)))), (16, vI (1)), (15, vI (R r (3 + c))), (14, vI (c)), (0, .ref (gw_ad w k)), (1, vI (r)), (2, .ref (gw_ad w t)), (3, vI (row)), (7, vL (enc pA fr)), (9, vL (enc pL fr)), (11, vL (enc pN fr)), (13, vI (R r 0))]) (by decide) rfl dX2_holds_208 ?_
                    refine g_lload (pc := 210) hX 10 rfl dX2_holds_210 ?_
                    refine g_iconst (pc := 212) hX dX2_holds_212 ?_
                    refine g_lshr (pc := 213) hX (z := enc pA fr.tail) (by rw [← enc_half]; exact lI_shr1 (enc_b pA hlen).1 (by have := (enc_b pA hlen).2; omega)) dX2_holds_213 ?_
                    refine g_lstore (pc := 214) hX (lv2 := [(7, vL (enc pA fr.tail)), (6, vI (0)), (5, vI (0)), (4, vI (bz (pA (fhd fr)))), (16, vI (1)), (15, vI (R r (3 + c))), (14, vI (c)), (0, .ref (gw_ad w k)), (1, vI (r)), (2, .ref (gw_ad w t)), (3, vI (row)), (9, vL (enc pL fr)), (11, vL (enc pN fr)), (13, vI (R r 0))]) (by decide) rfl dX2_holds_214 ?_
                    refine g_lload (pc := 216) hX 11 rfl dX2_holds_216 ?_
                    refine g_iconst (pc := 218) hX dX2_holds_218 ?_
                    refine g_lshr (pc := 219) hX (z := enc pL fr.tail) (by rw [← enc_half]; exact lI_shr1 (enc_b pL hlen).1 (by have := (enc_b pL hlen).2; omega)) dX2_holds_219 ?_
                    refine g_lstore (pc := 220) hX (lv2 := [(9, vL (enc pL fr.tail)), (7, vL (enc pA fr.tail)), (6, vI (0)), (5, vI (0)), (4, vI (bz (pA (fhd fr)))), (16, vI (1)), (15, vI (R r (3 + c))), (14, vI (c)), (0, .ref (gw_ad w k)), (1, vI (r)), (2, .ref (gw_ad w t)), (3, vI (row)), (11, vL (enc pN fr)), (13, vI (R r 0))]) (by decide) rfl dX2_holds_220 ?_
                    refine g_lload (pc := 222) hX 12 rfl dX2_holds_222 ?_
                    refine g_iconst (pc := 224) hX dX2_holds_224 ?_
                    refine g_lshr (pc := 225) hX (z := enc pN fr.tail) (by rw [← enc_half]; exact lI_shr1 (enc_b pN hlen).1 (by have := (enc_b pN hlen).2; omega)) dX2_holds_225 ?_
                    refine g_lstore (pc := 226) hX (lv2 := [(11, vL (enc pN fr.tail)), (9, vL (enc pL fr.tail)), (7, vL (enc pA fr.tail)), (6, vI (0)), (5, vI (0)), (4, vI (bz (pA (fhd fr)))), (16, vI (1)), (15, vI (R r (3 + c))), (14, vI (c)), (0, .ref (gw_ad w k)), (1, vI (r)), (2, .ref (gw_ad w t)), (3, vI (row)), (13, vI (R r 0))]) (by decide) rfl dX2_holds_226 ?_
                    refine g_goto (pc := 228) (tgt := 263) hX dX2_holds_228 (by decide) ?_
                    refine g_iinc (pc := 263) hX (lv2 := [(14, vI (c + 1)), (11, vL (enc pN fr.tail)), (9, vL (enc pL fr.tail)), (7, vL (enc pA fr.tail)), (6, vI (0)), (5, vI (0)), (4, vI (bz (pA (fhd fr)))), (16, vI (1)), (15, vI (R r (3 + c))), (0, .ref (gw_ad w k)), (1, vI (r)), (2, .ref (gw_ad w t)), (3, vI (row)), (13, vI (R r 0))]) 8 rfl (by decide) rfl dX2_holds_263 ?_
                    refine g_goto (pc := 266) (tgt := 32) hX dX2_holds_266 (by decide) ?_
                    refine g_sub (lv2 := [(14, vI (c + 1)), (0, .ref (gw_ad w k)), (1, vI (r)), (2, .ref (gw_ad w t)), (3, vI (row)), (4, vI (bz (pA (fhd fr)))), (5, vI (0)), (6, vI (0)), (7, vL (enc pA fr.tail)), (9, vL (enc pL fr.tail)), (11, vL (enc pN fr.tail)), (13, vI (R r 0))]) [0, 9, 10, 11, 12, 6, 5, 4, 3, 2, 1, 13] rfl ?_
                    refine g_at rfl (lv2 := [(14, vI (c + 1)), (0, .ref (gw_ad w k)), (1, vI (r)), (2, .ref (gw_ad w t)), (3, vI (row)), (4, vI (bz (pA (fhd fr)))), (5, vI (0)), (6, vI (0)), (7, vL (enc pA fr.tail)), (9, vL (enc pL fr.tail)), (11, vL (enc pN fr.tail)), (13, vI (R r 0))]) (rfl) rfl (S2 := S) (rfl) ?_
                    exact ihloop (c + 1) (pA (fhd fr)) (false) (false) (fr.tail) (by omega) (by omega) (by omega) (by rw [evN_s _ _ h1c, es]; simp [ev1, c_36, c_57, c_79, c_125, c_155, c_160, c_187])
                  · skip
                    refine g_iload (pc := 190) hX 1 rfl dX2_holds_190 ?_
                    refine g_lload (pc := 192) hX 12 rfl dX2_holds_192 ?_
                    refine g_callT1 (pc := 194) (As := [vL (enc pN fr)]) (st2 := [vI (1)]) hX (c_X2_isSet (x := enc pN fr) (enc_b pN hlen).1 (by have := (enc_b pN hlen).2; omega)) gX2_holds_X2_isSet (n := 1) (hw := rfl) (hrc := rfl) (hrs := rfl) (hd := by decide +kernel) (hR := ⟨Nat.le_of_ble_eq_true rfl, Nat.le_of_ble_eq_true rfl⟩) (hn := rfl) (hst := rfl) (hsum := Nat.le_of_ble_eq_true rfl) (hdg := dX2_holds_194) ?_
                    rintro _ S9 ⟨rfl, e9⟩
                    rw [e9]
                    clear e9 S9
                    rw [enc_odd pN fr rfl]
                    refine g_at (pc2 := 197) rfl rfl (st2 := [vI (bz (pN (fhd fr))), vI (1)]) rfl (S2 := S) rfl ?_
                    refine g_bcmp_eq (pc := 197) (tgt := 204) (a := true) (b := pN (fhd fr)) hX dX2_holds_197 (by decide) (fun c_197 => ?_) (fun c_197 => ?_)
                    · skip
                      refine g_iconst (pc := 204) hX dX2_holds_204 ?_
                      refine g_istore (pc := 205) hX (lv2 := [(5, vI (0)), (4, vI (bz (pA (fhd fr)))), (16, vI (1)), (15, vI (R r (3 + c))), (14, vI (c)), (0, .ref (gw_ad w k)), (1, vI (r)), (2, .ref (gw_ad w t)), (3, vI (row)), (6, vI (bz (n0_))), (7, vL (enc pA fr)), (9, vL (enc pL fr)), (11, vL (enc pN fr)), (13, vI (R r 0))]) (by decide) rfl dX2_holds_205 ?_
                      refine g_iconst (pc := 207) hX dX2_holds_207 ?_
                      refine g_istore (pc := 208) hX (lv2 := [(6, vI (0)), (5, vI (0)), (4, vI (bz (pA (fhd fr)))), (16, vI (1)), (15, vI (R r (3 + c))), (14, vI (c)), (0, .ref (gw_ad w k)), (1, vI (r)), (2, .ref (gw_ad w t)), (3, vI (row)), (7, vL (enc pA fr)), (9, vL (enc pL fr)), (11, vL (enc pN fr)), (13, vI (R r 0))]) (by decide) rfl dX2_holds_208 ?_
                      refine g_lload (pc := 210) hX 10 rfl dX2_holds_210 ?_
                      refine g_iconst (pc := 212) hX dX2_holds_212 ?_
                      refine g_lshr (pc := 213) hX (z := enc pA fr.tail) (by rw [← enc_half]; exact lI_shr1 (enc_b pA hlen).1 (by have := (enc_b pA hlen).2; omega)) dX2_holds_213 ?_
                      refine g_lstore (pc := 214) hX (lv2 := [(7, vL (enc pA fr.tail)), (6, vI (0)), (5, vI (0)), (4, vI (bz (pA (fhd fr)))), (16, vI (1)), (15, vI (R r (3 + c))), (14, vI (c)), (0, .ref (gw_ad w k)), (1, vI (r)), (2, .ref (gw_ad w t)), (3, vI (row)), (9, vL (enc pL fr)), (11, vL (enc pN fr)), (13, vI (R r 0))]) (by decide) rfl dX2_holds_214 ?_
                      refine g_lload (pc := 216) hX 11 rfl dX2_holds_216 ?_
                      refine g_iconst (pc := 218) hX dX2_holds_218 ?_
                      refine g_lshr (pc := 219) hX (z := enc pL fr.tail) (by rw [← enc_half]; exact lI_shr1 (enc_b pL hlen).1 (by have := (enc_b pL hlen).2; omega)) dX2_holds_219 ?_
                      refine g_lstore (pc := 220) hX (lv2 := [(9, vL (enc pL fr.tail)), (7, vL (enc pA fr.tail)), (6, vI (0)), (5, vI (0)), (4, vI (bz (pA (fhd fr)))), (16, vI (1)), (15, vI (R r (3 + c))), (14, vI (c)), (0, .ref (gw_ad w k)), (1, vI (r)), (2, .ref (gw_ad w t)), (3, vI (row)), (11, vL (enc pN fr)), (13, vI (R r 0))]) (by decide) rfl dX2_holds_220 ?_
                      refine g_lload (pc := 222) hX 12 rfl dX2_holds_222 ?_
                      refine g_iconst (pc := 224) hX dX2_holds_224 ?_
                      refine g_lshr (pc := 225) hX (z := enc pN fr.tail) (by rw [← enc_half]; exact lI_shr1 (enc_b pN hlen).1 (by have := (enc_b pN hlen).2; omega)) dX2_holds_225 ?_
                      refine g_lstore (pc := 226) hX (lv2 := [(11, vL (enc pN fr.tail)), (9, vL (enc pL fr.tail)), (7, vL (enc pA fr.tail)), (6, vI (0)), (5, vI (0)), (4, vI (bz (pA (fhd fr)))), (16, vI (1)), (15, vI (R r (3 + c))), (14, vI (c)), (0, .ref (gw_ad w k)), (1, vI (r)), (2, .ref (gw_ad w t)), (3, vI (row)), (13, vI (R r 0))]) (by decide) rfl dX2_holds_226 ?_
                      refine g_goto (pc := 228) (tgt := 263) hX dX2_holds_228 (by decide) ?_
                      refine g_iinc (pc := 263) hX (lv2 := [(14, vI (c + 1)), (11, vL (enc pN fr.tail)), (9, vL (enc pL fr.tail)), (7, vL (enc pA fr.tail)), (6, vI (0)), (5, vI (0)), (4, vI (bz (pA (fhd fr)))), (16, vI (1)), (15, vI (R r (3 + c))), (0, .ref (gw_ad w k)), (1, vI (r)), (2, .ref (gw_ad w t)), (3, vI (row)), (13, vI (R r 0))]) 8 rfl (by decide) rfl dX2_holds_263 ?_
                      refine g_goto (pc := 266) (tgt := 32) hX dX2_holds_266 (by decide) ?_
                      refine g_sub (lv2 := [(14, vI (c + 1)), (0, .ref (gw_ad w k)), (1, vI (r)), (2, .ref (gw_ad w t)), (3, vI (row)), (4, vI (bz (pA (fhd fr)))), (5, vI (0)), (6, vI (0)), (7, vL (enc pA fr.tail)), (9, vL (enc pL fr.tail)), (11, vL (enc pN fr.tail)), (13, vI (R r 0))]) [0, 9, 10, 11, 12, 6, 5, 4, 3, 2, 1, 13] rfl ?_
                      refine g_at rfl (lv2 := [(14, vI (c + 1)), (0, .ref (gw_ad w k)), (1, vI (r)), (2, .ref (gw_ad w t)), (3, vI (row)), (4, vI (bz (pA (fhd fr)))), (5, vI (0)), (6, vI (0)), (7, vL (enc pA fr.tail)), (9, vL (enc pL fr.tail)), (11, vL (enc pN fr.tail)), (13, vI (R r 0))]) (rfl) rfl (S2 := S) (rfl) ?_
                      exact ihloop (c + 1) (pA (fhd fr)) (false) (false) (fr.tail) (by omega) (by omega) (by omega) (by rw [evN_s _ _ h1c, es]; simp [ev1, c_36, c_57, c_79, c_125, c_155, c_160, c_187, c_197])
                    · skip
                      refine g_iconst (pc := 200) hX dX2_holds_200 ?_
                      refine g_goto (pc := 201) (tgt := 205) hX dX2_holds_201 (by decide) ?_
                      refine g_istore (pc := 205) hX (lv2 := [(5, vI (1)), (4, vI (bz (pA (fhd fr)))), (16, vI (1)), (15, vI (R r (3 + c))), (14, vI (c)), (0, .ref (gw_ad w k)), (1, vI (r)), (2, .ref (gw_ad w t)), (3, vI (row)), (6, vI (bz (n0_))), (7, vL (enc pA fr)), (9, vL (enc pL fr)), (11, vL (enc pN fr)), (13, vI (R r 0))]) (by decide) rfl dX2_holds_205 ?_
                      refine g_iconst (pc := 207) hX dX2_holds_207 ?_
                      refine g_istore (pc := 208) hX (lv2 := [(6, vI (0)), (5, vI (1)), (4, vI (bz (pA (fhd fr)))), (16, vI (1)), (15, vI (R r (3 + c))), (14, vI (c)), (0, .ref (gw_ad w k)), (1, vI (r)), (2, .ref (gw_ad w t)), (3, vI (row)), (7, vL (enc pA fr)), (9, vL (enc pL fr)), (11, vL (enc pN fr)), (13, vI (R r 0))]) (by decide) rfl dX2_holds_208 ?_
                      refine g_lload (pc := 210) hX 10 rfl dX2_holds_210 ?_
                      refine g_iconst (pc := 212) hX dX2_holds_212 ?_
                      refine g_lshr (pc := 213) hX (z := enc pA fr.tail) (by rw [← enc_half]; exact lI_shr1 (enc_b pA hlen).1 (by have := (enc_b pA hlen).2; omega)) dX2_holds_213 ?_
                      refine g_lstore (pc := 214) hX (lv2 := [(7, vL (enc pA fr.tail)), (6, vI (0)), (5, vI (1)), (4, vI (bz (pA (fhd fr)))), (16, vI (1)), (15, vI (R r (3 + c))), (14, vI (c)), (0, .ref (gw_ad w k)), (1, vI (r)), (2, .ref (gw_ad w t)), (3, vI (row)), (9, vL (enc pL fr)), (11, vL (enc pN fr)), (13, vI (R r 0))]) (by decide) rfl dX2_holds_214 ?_
                      refine g_lload (pc := 216) hX 11 rfl dX2_holds_216 ?_
                      refine g_iconst (pc := 218) hX dX2_holds_218 ?_
                      refine g_lshr (pc := 219) hX (z := enc pL fr.tail) (by rw [← enc_half]; exact lI_shr1 (enc_b pL hlen).1 (by have := (enc_b pL hlen).2; omega)) dX2_holds_219 ?_
                      refine g_lstore (pc := 220) hX (lv2 := [(9, vL (enc pL fr.tail)), (7, vL (enc pA fr.tail)), (6, vI (0)), (5, vI (1)), (4, vI (bz (pA (fhd fr)))), (16, vI (1)), (15, vI (R r (3 + c))), (14, vI (c)), (0, .ref (gw_ad w k)), (1, vI (r)), (2, .ref (gw_ad w t)), (3, vI (row)), (11, vL (enc pN fr)), (13, vI (R r 0))]) (by decide) rfl dX2_holds_220 ?_
                      refine g_lload (pc := 222) hX 12 rfl dX2_holds_222 ?_
                      refine g_iconst (pc := 224) hX dX2_holds_224 ?_
                      refine g_lshr (pc := 225) hX (z := enc pN fr.tail) (by rw [← enc_half]; exact lI_shr1 (enc_b pN hlen).1 (by have := (enc_b pN hlen).2; omega)) dX2_holds_225 ?_
                      refine g_lstore (pc := 226) hX (lv2 := [(11, vL (enc pN fr.tail)), (9, vL (enc pL fr.tail)), (7, vL (enc pA fr.tail)), (6, vI (0)), (5, vI (1)), (4, vI (bz (pA (fhd fr)))), (16, vI (1)), (15, vI (R r (3 + c))), (14, vI (c)), (0, .ref (gw_ad w k)), (1, vI (r)), (2, .ref (gw_ad w t)), (3, vI (row)), (13, vI (R r 0))]) (by decide) rfl dX2_holds_226 ?_
                      refine g_goto (pc := 228) (tgt := 263) hX dX2_holds_228 (by decide) ?_
                      refine g_iinc (pc := 263) hX (lv2 := [(14, vI (c + 1)), (11, vL (enc pN fr.tail)), (9, vL (enc pL fr.tail)), (7, vL (enc pA fr.tail)), (6, vI (0)), (5, vI (1)), (4, vI (bz (pA (fhd fr)))), (16, vI (1)), (15, vI (R r (3 + c))), (0, .ref (gw_ad w k)), (1, vI (r)), (2, .ref (gw_ad w t)), (3, vI (row)), (13, vI (R r 0))]) 8 rfl (by decide) rfl dX2_holds_263 ?_
                      refine g_goto (pc := 266) (tgt := 32) hX dX2_holds_266 (by decide) ?_
                      refine g_sub (lv2 := [(14, vI (c + 1)), (0, .ref (gw_ad w k)), (1, vI (r)), (2, .ref (gw_ad w t)), (3, vI (row)), (4, vI (bz (pA (fhd fr)))), (5, vI (1)), (6, vI (0)), (7, vL (enc pA fr.tail)), (9, vL (enc pL fr.tail)), (11, vL (enc pN fr.tail)), (13, vI (R r 0))]) [0, 9, 10, 11, 12, 6, 5, 4, 3, 2, 1, 13] rfl ?_
                      refine g_at rfl (lv2 := [(14, vI (c + 1)), (0, .ref (gw_ad w k)), (1, vI (r)), (2, .ref (gw_ad w t)), (3, vI (row)), (4, vI (bz (pA (fhd fr)))), (5, vI (1)), (6, vI (0)), (7, vL (enc pA fr.tail)), (9, vL (enc pL fr.tail)), (11, vL (enc pN fr.tail)), (13, vI (R r 0))]) (rfl) rfl (S2 := S) (rfl) ?_
                      exact ihloop (c + 1) (pA (fhd fr)) (true) (false) (fr.tail) (by omega) (by omega) (by omega) (by rw [evN_s _ _ h1c, es]; simp [ev1, c_36, c_57, c_79, c_125, c_155, c_160, c_187, c_197])
                · skip
                  refine g_iload (pc := 163) hX 7 rfl dX2_holds_163 ?_
                  refine g_bif_eq (pc := 165) (tgt := 172) hX dX2_holds_165 (by decide) (fun c_165 => ?_) (fun c_165 => ?_)
                  · skip
                    refine g_iconst (pc := 172) hX dX2_holds_172 ?_
                    refine g_istore (pc := 173) hX (lv2 := [(16, vI (0)), (15, vI (R r (3 + c))), (14, vI (c)), (0, .ref (gw_ad w k)), (1, vI (r)), (2, .ref (gw_ad w t)), (3, vI (row)), (4, vI (bz (a))), (5, vI (bz (b))), (6, vI (bz (n0_))), (7, vL (enc pA fr)), (9, vL (enc pL fr)), (11, vL (enc pN fr)), (13, vI (R r 0))]) (by decide) rfl dX2_holds_173 ?_
                    refine g_lload (pc := 175) hX 10 rfl dX2_holds_175 ?_
                    refine g_callT1 (pc := 177) (As := [vL (enc pA fr)]) (st2 := []) hX (c_X2_isSet (x := enc pA fr) (enc_b pA hlen).1 (by have := (enc_b pA hlen).2; omega)) gX2_holds_X2_isSet (n := 1) (hw := rfl) (hrc := rfl) (hrs := rfl) (hd := by decide +kernel) (hR := ⟨Nat.le_of_ble_eq_true rfl, Nat.le_of_ble_eq_true rfl⟩) (hn := rfl) (hst := rfl) (hsum := Nat.le_of_ble_eq_true rfl) (hdg := dX2_holds_177) ?_
                    rintro _ S9 ⟨rfl, e9⟩
                    rw [e9]
                    clear e9 S9
                    rw [enc_odd pA fr rfl]
                    refine g_at (pc2 := 180) rfl rfl (st2 := [vI (bz (pA (fhd fr)))]) rfl (S2 := S) rfl ?_
                    refine g_istore (pc := 180) hX (lv2 := [(4, vI (bz (pA (fhd fr)))), (16, vI (0)), (15, vI (R r (3 + c))), (14, vI (c)), (0, .ref (gw_ad w k)), (1, vI (r)), (2, .ref (gw_ad w t)), (3, vI (row)), (5, vI (bz (b))), (6, vI (bz (n0_))), (7, vL (enc pA fr)), (9, vL (enc pL fr)), (11, vL (enc pN fr)), (13, vI (R r 0))]) (by decide) rfl dX2_holds_180 ?_
                    refine g_lload (pc := 182) hX 11 rfl dX2_holds_182 ?_
                    refine g_callT1 (pc := 184) (As := [vL (enc pL fr)]) (st2 := []) hX (c_X2_isSet (x := enc pL fr) (enc_b pL hlen).1 (by have := (enc_b pL hlen).2; omega)) gX2_holds_X2_isSet (n := 1) (hw := rfl) (hrc := rfl) (hrs := rfl) (hd := by decide +kernel) (hR := ⟨Nat.le_of_ble_eq_true rfl, Nat.le_of_ble_eq_true rfl⟩) (hn := rfl) (hst := rfl) (hsum := Nat.le_of_ble_eq_true rfl) (hdg := dX2_holds_184) ?_
                    rintro _ S9 ⟨rfl, e9⟩
                    rw [e9]
                    clear e9 S9
                    rw [enc_odd pL fr rfl]
                    refine g_at (pc2 := 187) rfl rfl (st2 := [vI (bz (pL (fhd fr)))]) rfl (S2 := S) rfl ?_
                    refine g_bif_eq (pc := 187) (tgt := 204) hX dX2_holds_187 (by decide) (fun c_187 => ?_) (fun c_187 => ?_)
                    · skip
                      refine g_iconst (pc := 204) hX dX2_holds_204 ?_
                      refine g_istore (pc := 205) hX (lv2 := [(5, vI (0)), (4, vI (bz (pA (fhd fr)))), (16, vI (0)), (15, vI (R r (3 + c))), (14, vI (c)), (0, .ref (gw_ad w k)), (1, vI (r)), (2, .ref (gw_ad w t)), (3, vI (row)), (6, vI (bz (n0_))), (7, vL (enc pA fr)), (9, vL (enc pL fr)), (11, vL (enc pN fr)), (13, vI (R r 0))]) (by decide) rfl dX2_holds_205 ?_
                      refine g_iconst (pc := 207) hX dX2_holds_207 ?_
                      refine g_istore (pc := 208) hX (lv2 := [(6, vI (0)), (5, vI (0)), (4, vI (bz (pA (fhd fr)))), (16, vI (0)), (15, vI (R r (3 + c))), (14, vI (c)), (0, .ref (gw_ad w k)), (1, vI (r)), (2, .ref (gw_ad w t)), (3, vI (row)), (7, vL (enc pA fr)), (9, vL (enc pL fr)), (11, vL (enc pN fr)), (13, vI (R r 0))]) (by decide) rfl dX2_holds_208 ?_
                      refine g_lload (pc := 210) hX 10 rfl dX2_holds_210 ?_
                      refine g_iconst (pc := 212) hX dX2_holds_212 ?_
                      refine g_lshr (pc := 213) hX (z := enc pA fr.tail) (by rw [← enc_half]; exact lI_shr1 (enc_b pA hlen).1 (by have := (enc_b pA hlen).2; omega)) dX2_holds_213 ?_
                      refine g_lstore (pc := 214) hX (lv2 := [(7, vL (enc pA fr.tail)), (6, vI (0)), (5, vI (0)), (4, vI (bz (pA (fhd fr)))), (16, vI (0)), (15, vI (R r (3 + c))), (14, vI (c)), (0, .ref (gw_ad w k)), (1, vI (r)), (2, .ref (gw_ad w t)), (3, vI (row)), (9, vL (enc pL fr)), (11, vL (enc pN fr)), (13, vI (R r 0))]) (by decide) rfl dX2_holds_214 ?_
                      refine g_lload (pc := 216) hX 11 rfl dX2_holds_216 ?_
                      refine g_iconst (pc := 218) hX dX2_holds_218 ?_
                      refine g_lshr (pc := 219) hX (z := enc pL fr.tail) (by rw [← enc_half]; exact lI_shr1 (enc_b pL hlen).1 (by have := (enc_b pL hlen).2; omega)) dX2_holds_219 ?_
                      refine g_lstore (pc := 220) hX (lv2 := [(9, vL (enc pL fr.tail)), (7, vL (enc pA fr.tail)), (6, vI (0)), (5, vI (0)), (4, vI (bz (pA (fhd fr)))), (16, vI (0)), (15, vI (R r (3 + c))), (14, vI (c)), (0, .ref (gw_ad w k)), (1, vI (r)), (2, .ref (gw_ad w t)), (3, vI (row)), (11, vL (enc pN fr)), (13, vI (R r 0))]) (by decide) rfl dX2_holds_220 ?_
                      refine g_lload (pc := 222) hX 12 rfl dX2_holds_222 ?_
                      refine g_iconst (pc := 224) hX dX2_holds_224 ?_
                      refine g_lshr (pc := 225) hX (z := enc pN fr.tail) (by rw [← enc_half]; exact lI_shr1 (enc_b pN hlen).1 (by have := (enc_b pN hlen).2; omega)) dX2_holds_225 ?_
                      refine g_lstore (pc := 226) hX (lv2 := [(11, vL (enc pN fr.tail)), (9, vL (enc pL fr.tail)), (7, vL (enc pA fr.tail)), (6, vI (0)), (5, vI (0)), (4, vI (bz (pA (fhd fr)))), (16, vI (0)), (15, vI (R r (3 + c))), (14, vI (c)), (0, .ref (gw_ad w k)), (1, vI (r)), (2, .ref (gw_ad w t)), (3, vI (row)), (13, vI (R r 0))]) (by decide) rfl dX2_holds_226 ?_
                      refine g_goto (pc := 228) (tgt := 263) hX dX2_holds_228 (by decide) ?_
                      refine g_iinc (pc := 263) hX (lv2 := [(14, vI (c + 1)), (11, vL (enc pN fr.tail)), (9, vL (enc pL fr.tail)), (7, vL (enc pA fr.tail)), (6, vI (0)), (5, vI (0)), (4, vI (bz (pA (fhd fr)))), (16, vI (0)), (15, vI (R r (3 + c))), (0, .ref (gw_ad w k)), (1, vI (r)), (2, .ref (gw_ad w t)), (3, vI (row)), (13, vI (R r 0))]) 8 rfl (by decide) rfl dX2_holds_263 ?_
                      refine g_goto (pc := 266) (tgt := 32) hX dX2_holds_266 (by decide) ?_
                      refine g_sub (lv2 := [(14, vI (c + 1)), (0, .ref (gw_ad w k)), (1, vI (r)), (2, .ref (gw_ad w t)), (3, vI (row)), (4, vI (bz (pA (fhd fr)))), (5, vI (0)), (6, vI (0)), (7, vL (enc pA fr.tail)), (9, vL (enc pL fr.tail)), (11, vL (enc pN fr.tail)), (13, vI (R r 0))]) [0, 9, 10, 11, 12, 6, 5, 4, 3, 2, 1, 13] rfl ?_
                      refine g_at rfl (lv2 := [(14, vI (c + 1)), (0, .ref (gw_ad w k)), (1, vI (r)), (2, .ref (gw_ad w t)), (3, vI (row)), (4, vI (bz (pA (fhd fr)))), (5, vI (0)), (6, vI (0)), (7, vL (enc pA fr.tail)), (9, vL (enc pL fr.tail)), (11, vL (enc pN fr.tail)), (13, vI (R r 0))]) (rfl) rfl (S2 := S) (rfl) ?_
                      exact ihloop (c + 1) (pA (fhd fr)) (false) (false) (fr.tail) (by omega) (by omega) (by omega) (by rw [evN_s _ _ h1c, es]; simp [ev1, c_36, c_57, c_79, c_125, c_155, c_160, c_165, c_187])
                    · skip
                      refine g_iload (pc := 190) hX 1 rfl dX2_holds_190 ?_
                      refine g_lload (pc := 192) hX 12 rfl dX2_holds_192 ?_
                      refine g_callT1 (pc := 194) (As := [vL (enc pN fr)]) (st2 := [vI (0)]) hX (c_X2_isSet (x := enc pN fr) (enc_b pN hlen).1 (by have := (enc_b pN hlen).2; omega)) gX2_holds_X2_isSet (n := 1) (hw := rfl) (hrc := rfl) (hrs := rfl) (hd := by decide +kernel) (hR := ⟨Nat.le_of_ble_eq_true rfl, Nat.le_of_ble_eq_true rfl⟩) (hn := rfl) (hst := rfl) (hsum := Nat.le_of_ble_eq_true rfl) (hdg := dX2_holds_194) ?_
                      rintro _ S9 ⟨rfl, e9⟩
                      rw [e9]
                      clear e9 S9
                      rw [enc_odd pN fr rfl]
                      refine g_at (pc2 := 197) rfl rfl (st2 := [vI (bz (pN (fhd fr))), vI (0)]) rfl (S2 := S) rfl ?_
                      refine g_bcmp_eq (pc := 197) (tgt := 204) (a := false) (b := pN (fhd fr)) hX dX2_holds_197 (by decide) (fun c_197 => ?_) (fun c_197 => ?_)
                      · skip
                        refine g_iconst (pc := 204) hX dX2_holds_204 ?_
                        refine g_istore (pc := 205) hX (lv2 := [(5, vI (0)), (4, vI (bz (pA (fhd fr)))), (16, vI (0)), (15, vI (R r (3 + c))), (14, vI (c)), (0, .ref (gw_ad w k)), (1, vI (r)), (2, .ref (gw_ad w t)), (3, vI (row)), (6, vI (bz (n0_))), (7, vL (enc pA fr)), (9, vL (enc pL fr)), (11, vL (enc pN fr)), (13, vI (R r 0))]) (by decide) rfl dX2_holds_205 ?_
                        refine g_iconst (pc := 207) hX dX2_holds_207 ?_
                        refine g_istore (pc := 208) hX (lv2 := [(6, vI (0)), (5, vI (0)), (4, vI (bz (pA (fhd fr)))), (16, vI (0)), (15, vI (R r (3 + c))), (14, vI (c)), (0, .ref (gw_ad w k)), (1, vI (r)), (2, .ref (gw_ad w t)), (3, vI (row)), (7, vL (enc pA fr)), (9, vL (enc pL fr)), (11, vL (enc pN fr)), (13, vI (R r 0))]) (by decide) rfl dX2_holds_208 ?_
                        refine g_lload (pc := 210) hX 10 rfl dX2_holds_210 ?_
                        refine g_iconst (pc := 212) hX dX2_holds_212 ?_
                        refine g_lshr (pc := 213) hX (z := enc pA fr.tail) (by rw [← enc_half]; exact lI_shr1 (enc_b pA hlen).1 (by have := (enc_b pA hlen).2; omega)) dX2_holds_213 ?_
                        refine g_lstore (pc := 214) hX (lv2 := [(7, vL (enc pA fr.tail)), (6, vI (0)), (5, vI (0)), (4, vI (bz (pA (fhd fr)))), (16, vI (0)), (15, vI (R r (3 + c))), (14, vI (c)), (0, .ref (gw_ad w k)), (1, vI (r)), (2, .ref (gw_ad w t)), (3, vI (row)), (9, vL (enc pL fr)), (11, vL (enc pN fr)), (13, vI (R r 0))]) (by decide) rfl dX2_holds_214 ?_
                        refine g_lload (pc := 216) hX 11 rfl dX2_holds_216 ?_
                        refine g_iconst (pc := 218) hX dX2_holds_218 ?_
                        refine g_lshr (pc := 219) hX (z := enc pL fr.tail) (by rw [← enc_half]; exact lI_shr1 (enc_b pL hlen).1 (by have := (enc_b pL hlen).2; omega)) dX2_holds_219 ?_
                        refine g_lstore (pc := 220) hX (lv2 := [(9, vL (enc pL fr.tail)), (7, vL (enc pA fr.tail)), (6, vI (0)), (5, vI (0)), (4, vI (bz (pA (fhd fr)))), (16, vI (0)), (15, vI (R r (3 + c))), (14, vI (c)), (0, .ref (gw_ad w k)), (1, vI (r)), (2, .ref (gw_ad w t)), (3, vI (row)), (11, vL (enc pN fr)), (13, vI (R r 0))]) (by decide) rfl dX2_holds_220 ?_
                        refine g_lload (pc := 222) hX 12 rfl dX2_holds_222 ?_
                        refine g_iconst (pc := 224) hX dX2_holds_224 ?_
                        refine g_lshr (pc := 225) hX (z := enc pN fr.tail) (by rw [← enc_half]; exact lI_shr1 (enc_b pN hlen).1 (by have := (enc_b pN hlen).2; omega)) dX2_holds_225 ?_
                        refine g_lstore (pc := 226) hX (lv2 := [(11, vL (enc pN fr.tail)), (9, vL (enc pL fr.tail)), (7, vL (enc pA fr.tail)), (6, vI (0)), (5, vI (0)), (4, vI (bz (pA (fhd fr)))), (16, vI (0)), (15, vI (R r (3 + c))), (14, vI (c)), (0, .ref (gw_ad w k)), (1, vI (r)), (2, .ref (gw_ad w t)), (3, vI (row)), (13, vI (R r 0))]) (by decide) rfl dX2_holds_226 ?_
                        refine g_goto (pc := 228) (tgt := 263) hX dX2_holds_228 (by decide) ?_
                        refine g_iinc (pc := 263) hX (lv2 := [(14, vI (c + 1)), (11, vL (enc pN fr.tail)), (9, vL (enc pL fr.tail)), (7, vL (enc pA fr.tail)), (6, vI (0)), (5, vI (0)), (4, vI (bz (pA (fhd fr)))), (16, vI (0)), (15, vI (R r (3 + c))), (0, .ref (gw_ad w k)), (1, vI (r)), (2, .ref (gw_ad w t)), (3, vI (row)), (13, vI (R r 0))]) 8 rfl (by decide) rfl dX2_holds_263 ?_
                        refine g_goto (pc := 266) (tgt := 32) hX dX2_holds_266 (by decide) ?_
                        refine g_sub (lv2 := [(14, vI (c + 1)), (0, .ref (gw_ad w k)), (1, vI (r)), (2, .ref (gw_ad w t)), (3, vI (row)), (4, vI (bz (pA (fhd fr)))), (5, vI (0)), (6, vI (0)), (7, vL (enc pA fr.tail)), (9, vL (enc pL fr.tail)), (11, vL (enc pN fr.tail)), (13, vI (R r 0))]) [0, 9, 10, 11, 12, 6, 5, 4, 3, 2, 1, 13] rfl ?_
                        refine g_at rfl (lv2 := [(14, vI (c + 1)), (0, .ref (gw_ad w k)), (1, vI (r)), (2, .ref (gw_ad w t)), (3, vI (row)), (4, vI (bz (pA (fhd fr)))), (5, vI (0)), (6, vI (0)), (7, vL (enc pA fr.tail)), (9, vL (enc pL fr.tail)), (11, vL (enc pN fr.tail)), (13, vI (R r 0))]) (rfl) rfl (S2 := S) (rfl) ?_
                        exact ihloop (c + 1) (pA (fhd fr)) (false) (false) (fr.tail) (by omega) (by omega) (by omega) (by rw [evN_s _ _ h1c, es]; simp [ev1, c_36, c_57, c_79, c_125, c_155, c_160, c_165, c_187, c_197])
                      · skip
                        refine g_iconst (pc := 200) hX dX2_holds_200 ?_
                        refine g_goto (pc := 201) (tgt := 205) hX dX2_holds_201 (by decide) ?_
                        refine g_istore (pc := 205) hX (lv2 := [(5, vI (1)), (4, vI (bz (pA (fhd fr)))), (16, vI (0)), (15, vI (R r (3 + c))), (14, vI (c)), (0, .ref (gw_ad w k)), (1, vI (r)), (2, .ref (gw_ad w t)), (3, vI (row)), (6, vI (bz (n0_))), (7, vL (enc pA fr)), (9, vL (enc pL fr)), (11, vL (enc pN fr)), (13, vI (R r 0))]) (by decide) rfl dX2_holds_205 ?_
                        refine g_iconst (pc := 207) hX dX2_holds_207 ?_
                        refine g_istore (pc := 208) hX (lv2 := [(6, vI (0)), (5, vI (1)), (4, vI (bz (pA (fhd fr)))), (16, vI (0)), (15, vI (R r (3 + c))), (14, vI (c)), (0, .ref (gw_ad w k)), (1, vI (r)), (2, .ref (gw_ad w t)), (3, vI (row)), (7, vL (enc pA fr)), (9, vL (enc pL fr)), (11, vL (enc pN fr)), (13, vI (R r 0))]) (by decide) rfl dX2_holds_208 ?_
                        refine g_lload (pc := 210) hX 10 rfl dX2_holds_210 ?_
                        refine g_iconst (pc := 212) hX dX2_holds_212 ?_
                        refine g_lshr (pc := 213) hX (z := enc pA fr.tail) (by rw [← enc_half]; exact lI_shr1 (enc_b pA hlen).1 (by have := (enc_b pA hlen).2; omega)) dX2_holds_213 ?_
                        refine g_lstore (pc := 214) hX (lv2 := [(7, vL (enc pA fr.tail)), (6, vI (0)), (5, vI (1)), (4, vI (bz (pA (fhd fr)))), (16, vI (0)), (15, vI (R r (3 + c))), (14, vI (c)), (0, .ref (gw_ad w k)), (1, vI (r)), (2, .ref (gw_ad w t)), (3, vI (row)), (9, vL (enc pL fr)), (11, vL (enc pN fr)), (13, vI (R r 0))]) (by decide) rfl dX2_holds_214 ?_
                        refine g_lload (pc := 216) hX 11 rfl dX2_holds_216 ?_
                        refine g_iconst (pc := 218) hX dX2_holds_218 ?_
                        refine g_lshr (pc := 219) hX (z := enc pL fr.tail) (by rw [← enc_half]; exact lI_shr1 (enc_b pL hlen).1 (by have := (enc_b pL hlen).2; omega)) dX2_holds_219 ?_
                        refine g_lstore (pc := 220) hX (lv2 := [(9, vL (enc pL fr.tail)), (7, vL (enc pA fr.tail)), (6, vI (0)), (5, vI (1)), (4, vI (bz (pA (fhd fr)))), (16, vI (0)), (15, vI (R r (3 + c))), (14, vI (c)), (0, .ref (gw_ad w k)), (1, vI (r)), (2, .ref (gw_ad w t)), (3, vI (row)), (11, vL (enc pN fr)), (13, vI (R r 0))]) (by decide) rfl dX2_holds_220 ?_
                        refine g_lload (pc := 222) hX 12 rfl dX2_holds_222 ?_
                        refine g_iconst (pc := 224) hX dX2_holds_224 ?_
                        refine g_lshr (pc := 225) hX (z := enc pN fr.tail) (by rw [← enc_half]; exact lI_shr1 (enc_b pN hlen).1 (by have := (enc_b pN hlen).2; omega)) dX2_holds_225 ?_
                        refine g_lstore (pc := 226) hX (lv2 := [(11, vL (enc pN fr.tail)), (9, vL (enc pL fr.tail)), (7, vL (enc pA fr.tail)), (6, vI (0)), (5, vI (1)), (4, vI (bz (pA (fhd fr)))), (16, vI (0)), (15, vI (R r (3 + c))), (14, vI (c)), (0, .ref (gw_ad w k)), (1, vI (r)), (2, .ref (gw_ad w t)), (3, vI (row)), (13, vI (R r 0))]) (by decide) rfl dX2_holds_226 ?_
                        refine g_goto (pc := 228) (tgt := 263) hX dX2_holds_228 (by decide) ?_
                        refine g_iinc (pc := 263) hX (lv2 := [(14, vI (c + 1)), (11, vL (enc pN fr.tail)), (9, vL (enc pL fr.tail)), (7, vL (enc pA fr.tail)), (6, vI (0)), (5, vI (1)), (4, vI (bz (pA (fhd fr)))), (16, vI (0)), (15, vI (R r (3 + c))), (0, .ref (gw_ad w k)), (1, vI (r)), (2, .ref (gw_ad w t)), (3, vI (row)), (13, vI (R r 0))]) 8 rfl (by decide) rfl dX2_holds_263 ?_
                        refine g_goto (pc := 266) (tgt := 32) hX dX2_holds_266 (by decide) ?_
                        refine g_sub (lv2 := [(14, vI (c + 1)), (0, .ref (gw_ad w k)), (1, vI (r)), (2, .ref (gw_ad w t)), (3, vI (row)), (4, vI (bz (pA (fhd fr)))), (5, vI (1)), (6, vI (0)), (7, vL (enc pA fr.tail)), (9, vL (enc pL fr.tail)), (11, vL (enc pN fr.tail)), (13, vI (R r 0))]) [0, 9, 10, 11, 12, 6, 5, 4, 3, 2, 1, 13] rfl ?_
                        refine g_at rfl (lv2 := [(14, vI (c + 1)), (0, .ref (gw_ad w k)), (1, vI (r)), (2, .ref (gw_ad w t)), (3, vI (row)), (4, vI (bz (pA (fhd fr)))), (5, vI (1)), (6, vI (0)), (7, vL (enc pA fr.tail)), (9, vL (enc pL fr.tail)), (11, vL (enc pN fr.tail)), (13, vI (R r 0))]) (rfl) rfl (S2 := S) (rfl) ?_
                        exact ihloop (c + 1) (pA (fhd fr)) (true) (false) (fr.tail) (by omega) (by omega) (by omega) (by rw [evN_s _ _ h1c, es]; simp [ev1, c_36, c_57, c_79, c_125, c_155, c_160, c_165, c_187, c_197])
                  · skip
                    refine g_iconst (pc := 168) hX dX2_holds_168 ?_
                    refine g_goto (pc := 169) (tgt := 173) hX dX2_holds_169 (by decide) ?_
                    refine g_istore (pc := 173) hX (lv2 := [(16, vI (1)), (15, vI (R r (3 + c))), (14, vI (c)), (0, .ref (gw_ad w k)), (1, vI (r)), (2, .ref (gw_ad w t)), (3, vI (row)), (4, vI (bz (a))), (5, vI (bz (b))), (6, vI (bz (n0_))), (7, vL (enc pA fr)), (9, vL (enc pL fr)), (11, vL (enc pN fr)), (13, vI (R r 0))]) (by decide) rfl dX2_holds_173 ?_
                    refine g_lload (pc := 175) hX 10 rfl dX2_holds_175 ?_
                    refine g_callT1 (pc := 177) (As := [vL (enc pA fr)]) (st2 := []) hX (c_X2_isSet (x := enc pA fr) (enc_b pA hlen).1 (by have := (enc_b pA hlen).2; omega)) gX2_holds_X2_isSet (n := 1) (hw := rfl) (hrc := rfl) (hrs := rfl) (hd := by decide +kernel) (hR := ⟨Nat.le_of_ble_eq_true rfl, Nat.le_of_ble_eq_true rfl⟩) (hn := rfl) (hst := rfl) (hsum := Nat.le_of_ble_eq_true rfl) (hdg := dX2_holds_177) ?_
                    rintro _ S9 ⟨rfl, e9⟩
                    rw [e9]
                    clear e9 S9
                    rw [enc_odd pA fr rfl]
                    refine g_at (pc2 := 180) rfl rfl (st2 := [vI (bz (pA (fhd fr)))]) rfl (S2 := S) rfl ?_
                    refine g_istore (pc := 180) hX (lv2 := [(4, vI (bz (pA (fhd fr)))), (16, vI (1)), (15, vI (R r (3 + c))), (14, vI (c)), (0, .ref (gw_ad w k)), (1, vI (r)), (2, .ref (gw_ad w t)), (3, vI (row)), (5, vI (bz (b))), (6, vI (bz (n0_))), (7, vL (enc pA fr)), (9, vL (enc pL fr)), (11, vL (enc pN fr)), (13, vI (R r 0))]) (by decide) rfl dX2_holds_180 ?_
                    refine g_lload (pc := 182) hX 11 rfl dX2_holds_182 ?_
                    refine g_callT1 (pc := 184) (As := [vL (enc pL fr)]) (st2 := []) hX (c_X2_isSet (x := enc pL fr) (enc_b pL hlen).1 (by have := (enc_b pL hlen).2; omega)) gX2_holds_X2_isSet (n := 1) (hw := rfl) (hrc := rfl) (hrs := rfl) (hd := by decide +kernel) (hR := ⟨Nat.le_of_ble_eq_true rfl, Nat.le_of_ble_eq_true rfl⟩) (hn := rfl) (hst := rfl) (hsum := Nat.le_of_ble_eq_true rfl) (hdg := dX2_holds_184) ?_
                    rintro _ S9 ⟨rfl, e9⟩
                    rw [e9]
                    clear e9 S9
                    rw [enc_odd pL fr rfl]
                    refine g_at (pc2 := 187) rfl rfl (st2 := [vI (bz (pL (fhd fr)))]) rfl (S2 := S) rfl ?_
                    refine g_bif_eq (pc := 187) (tgt := 204) hX dX2_holds_187 (by decide) (fun c_187 => ?_) (fun c_187 => ?_)
                    · skip
                      refine g_iconst (pc := 204) hX dX2_holds_204 ?_
                      refine g_istore (pc := 205) hX (lv2 := [(5, vI (0)), (4, vI (bz (pA (fhd fr)))), (16, vI (1)), (15, vI (R r (3 + c))), (14, vI (c)), (0, .ref (gw_ad w k)), (1, vI (r)), (2, .ref (gw_ad w t)), (3, vI (row)), (6, vI (bz (n0_))), (7, vL (enc pA fr)), (9, vL (enc pL fr)), (11, vL (enc pN fr)), (13, vI (R r 0))]) (by decide) rfl dX2_holds_205 ?_
                      refine g_iconst (pc := 207) hX dX2_holds_207 ?_
                      refine g_istore (pc := 208) hX (lv2 := [(6, vI (0)), (5, vI (0)), (4, vI (bz (pA (fhd fr)))), (16, vI (1)), (15, vI (R r (3 + c))), (14, vI (c)), (0, .ref (gw_ad w k)), (1, vI (r)), (2, .ref (gw_ad w t)), (3, vI (row)), (7, vL (enc pA fr)), (9, vL (enc pL fr)), (11, vL (enc pN fr)), (13, vI (R r 0))]) (by decide) rfl dX2_holds_208 ?_
                      refine g_lload (pc := 210) hX 10 rfl dX2_holds_210 ?_
                      refine g_iconst (pc := 212) hX dX2_holds_212 ?_
                      refine g_lshr (pc := 213) hX (z := enc pA fr.tail) (by rw [← enc_half]; exact lI_shr1 (enc_b pA hlen).1 (by have := (enc_b pA hlen).2; omega)) dX2_holds_213 ?_
                      refine g_lstore (pc := 214) hX (lv2 := [(7, vL (enc pA fr.tail)), (6, vI (0)), (5, vI (0)), (4, vI (bz (pA (fhd fr)))), (16, vI (1)), (15, vI (R r (3 + c))), (14, vI (c)), (0, .ref (gw_ad w k)), (1, vI (r)), (2, .ref (gw_ad w t)), (3, vI (row)), (9, vL (enc pL fr)), (11, vL (enc pN fr)), (13, vI (R r 0))]) (by decide) rfl dX2_holds_214 ?_
                      refine g_lload (pc := 216) hX 11 rfl dX2_holds_216 ?_
                      refine g_iconst (pc := 218) hX dX2_holds_218 ?_
                      refine g_lshr (pc := 219) hX (z := enc pL fr.tail) (by rw [← enc_half]; exact lI_shr1 (enc_b pL hlen).1 (by have := (enc_b pL hlen).2; omega)) dX2_holds_219 ?_
                      refine g_lstore (pc := 220) hX (lv2 := [(9, vL (enc pL fr.tail)), (7, vL (enc pA fr.tail)), (6, vI (0)), (5, vI (0)), (4, vI (bz (pA (fhd fr)))), (16, vI (1)), (15, vI (R r (3 + c))), (14, vI (c)), (0, .ref (gw_ad w k)), (1, vI (r)), (2, .ref (gw_ad w t)), (3, vI (row)), (11, vL (enc pN fr)), (13, vI (R r 0))]) (by decide) rfl dX2_holds_220 ?_
                      refine g_lload (pc := 222) hX 12 rfl dX2_holds_222 ?_
                      refine g_iconst (pc := 224) hX dX2_holds_224 ?_
                      refine g_lshr (pc := 225) hX (z := enc pN fr.tail) (by rw [← enc_half]; exact lI_shr1 (enc_b pN hlen).1 (by have := (enc_b pN hlen).2; omega)) dX2_holds_225 ?_
                      refine g_lstore (pc := 226) hX (lv2 := [(11, vL (enc pN fr.tail)), (9, vL (enc pL fr.tail)), (7, vL (enc pA fr.tail)), (6, vI (0)), (5, vI (0)), (4, vI (bz (pA (fhd fr)))), (16, vI (1)), (15, vI (R r (3 + c))), (14, vI (c)), (0, .ref (gw_ad w k)), (1, vI (r)), (2, .ref (gw_ad w t)), (3, vI (row)), (13, vI (R r 0))]) (by decide) rfl dX2_holds_226 ?_
                      refine g_goto (pc := 228) (tgt := 263) hX dX2_holds_228 (by decide) ?_
                      refine g_iinc (pc := 263) hX (lv2 := [(14, vI (c + 1)), (11, vL (enc pN fr.tail)), (9, vL (enc pL fr.tail)), (7, vL (enc pA fr.tail)), (6, vI (0)), (5, vI (0)), (4, vI (bz (pA (fhd fr)))), (16, vI (1)), (15, vI (R r (3 + c))), (0, .ref (gw_ad w k)), (1, vI (r)), (2, .ref (gw_ad w t)), (3, vI (row)), (13, vI (R r 0))]) 8 rfl (by decide) rfl dX2_holds_263 ?_
                      refine g_goto (pc := 266) (tgt := 32) hX dX2_holds_266 (by decide) ?_
                      refine g_sub (lv2 := [(14, vI (c + 1)), (0, .ref (gw_ad w k)), (1, vI (r)), (2, .ref (gw_ad w t)), (3, vI (row)), (4, vI (bz (pA (fhd fr)))), (5, vI (0)), (6, vI (0)), (7, vL (enc pA fr.tail)), (9, vL (enc pL fr.tail)), (11, vL (enc pN fr.tail)), (13, vI (R r 0))]) [0, 9, 10, 11, 12, 6, 5, 4, 3, 2, 1, 13] rfl ?_
                      refine g_at rfl (lv2 := [(14, vI (c + 1)), (0, .ref (gw_ad w k)), (1, vI (r)), (2, .ref (gw_ad w t)), (3, vI (row)), (4, vI (bz (pA (fhd fr)))), (5, vI (0)), (6, vI (0)), (7, vL (enc pA fr.tail)), (9, vL (enc pL fr.tail)), (11, vL (enc pN fr.tail)), (13, vI (R r 0))]) (rfl) rfl (S2 := S) (rfl) ?_
                      exact ihloop (c + 1) (pA (fhd fr)) (false) (false) (fr.tail) (by omega) (by omega) (by omega) (by rw [evN_s _ _ h1c, es]; simp [ev1, c_36, c_57, c_79, c_125, c_155, c_160, c_165, c_187])
                    · skip
                      refine g_iload (pc := 190) hX 1 rfl dX2_holds_190 ?_
                      refine g_lload (pc := 192) hX 12 rfl dX2_holds_192 ?_
                      refine g_callT1 (pc := 194) (As := [vL (enc pN fr)]) (st2 := [vI (1)]) hX (c_X2_isSet (x := enc pN fr) (enc_b pN hlen).1 (by have := (enc_b pN hlen).2; omega)) gX2_holds_X2_isSet (n := 1) (hw := rfl) (hrc := rfl) (hrs := rfl) (hd := by decide +kernel) (hR := ⟨Nat.le_of_ble_eq_true rfl, Nat.le_of_ble_eq_true rfl⟩) (hn := rfl) (hst := rfl) (hsum := Nat.le_of_ble_eq_true rfl) (hdg := dX2_holds_194) ?_
                      rintro _ S9 ⟨rfl, e9⟩
                      rw [e9]
                      clear e9 S9
                      rw [enc_odd pN fr rfl]
                      refine g_at (pc2 := 197) rfl rfl (st2 := [vI (bz (pN (fhd fr))), vI (1)]) rfl (S2 := S) rfl ?_
                      refine g_bcmp_eq (pc := 197) (tgt := 204) (a := true) (b := pN (fhd fr)) hX dX2_holds_197 (by decide) (fun c_197 => ?_) (fun c_197 => ?_)
                      · skip
                        refine g_iconst (pc := 204) hX dX2_holds_204 ?_
                        refine g_istore (pc := 205) hX (lv2 := [(5, vI (0)), (4, vI (bz (pA (fhd fr)))), (16, vI (1)), (15, vI (R r (3 + c))), (14, vI (c)), (0, .ref (gw_ad w k)), (1, vI (r)), (2, .ref (gw_ad w t)), (3, vI (row)), (6, vI (bz (n0_))), (7, vL (enc pA fr)), (9, vL (enc pL fr)), (11, vL (enc pN fr)), (13, vI (R r 0))]) (by decide) rfl dX2_holds_205 ?_
                        refine g_iconst (pc := 207) hX dX2_holds_207 ?_
                        refine g_istore (pc := 208) hX (lv2 := [(6, vI (0)), (5, vI (0)), (4, vI (bz (pA (fhd fr)))), (16, vI (1)), (15, vI (R r (3 + c))), (14, vI (c)), (0, .ref (gw_ad w k)), (1, vI (r)), (2, .ref (gw_ad w t)), (3, vI (row)), (7, vL (enc pA fr)), (9, vL (enc pL fr)), (11, vL (enc pN fr)), (13, vI (R r 0))]) (by decide) rfl dX2_holds_208 ?_
                        refine g_lload (pc := 210) hX 10 rfl dX2_holds_210 ?_
                        refine g_iconst (pc := 212) hX dX2_holds_212 ?_
                        refine g_lshr (pc := 213) hX (z := enc pA fr.tail) (by rw [← enc_half]; exact lI_shr1 (enc_b pA hlen).1 (by have := (enc_b pA hlen).2; omega)) dX2_holds_213 ?_
                        refine g_lstore (pc := 214) hX (lv2 := [(7, vL (enc pA fr.tail)), (6, vI (0)), (5, vI (0)), (4, vI (bz (pA (fhd fr)))), (16, vI (1)), (15, vI (R r (3 + c))), (14, vI (c)), (0, .ref (gw_ad w k)), (1, vI (r)), (2, .ref (gw_ad w t)), (3, vI (row)), (9, vL (enc pL fr)), (11, vL (enc pN fr)), (13, vI (R r 0))]) (by decide) rfl dX2_holds_214 ?_
                        refine g_lload (pc := 216) hX 11 rfl dX2_holds_216 ?_
                        refine g_iconst (pc := 218) hX dX2_holds_218 ?_
                        refine g_lshr (pc := 219) hX (z := enc pL fr.tail) (by rw [← enc_half]; exact lI_shr1 (enc_b pL hlen).1 (by have := (enc_b pL hlen).2; omega)) dX2_holds_219 ?_
                        refine g_lstore (pc := 220) hX (lv2 := [(9, vL (enc pL fr.tail)), (7, vL (enc pA fr.tail)), (6, vI (0)), (5, vI (0)), (4, vI (bz (pA (fhd fr)))), (16, vI (1)), (15, vI (R r (3 + c))), (14, vI (c)), (0, .ref (gw_ad w k)), (1, vI (r)), (2, .ref (gw_ad w t)), (3, vI (row)), (11, vL (enc pN fr)), (13, vI (R r 0))]) (by decide) rfl dX2_holds_220 ?_
                        refine g_lload (pc := 222) hX 12 rfl dX2_holds_222 ?_
                        refine g_iconst (pc := 224) hX dX2_holds_224 ?_
                        refine g_lshr (pc := 225) hX (z := enc pN fr.tail) (by rw [← enc_half]; exact lI_shr1 (enc_b pN hlen).1 (by have := (enc_b pN hlen).2; omega)) dX2_holds_225 ?_
                        refine g_lstore (pc := 226) hX (lv2 := [(11, vL (enc pN fr.tail)), (9, vL (enc pL fr.tail)), (7, vL (enc pA fr.tail)), (6, vI (0)), (5, vI (0)), (4, vI (bz (pA (fhd fr)))), (16, vI (1)), (15, vI (R r (3 + c))), (14, vI (c)), (0, .ref (gw_ad w k)), (1, vI (r)), (2, .ref (gw_ad w t)), (3, vI (row)), (13, vI (R r 0))]) (by decide) rfl dX2_holds_226 ?_
                        refine g_goto (pc := 228) (tgt := 263) hX dX2_holds_228 (by decide) ?_
                        refine g_iinc (pc := 263) hX (lv2 := [(14, vI (c + 1)), (11, vL (enc pN fr.tail)), (9, vL (enc pL fr.tail)), (7, vL (enc pA fr.tail)), (6, vI (0)), (5, vI (0)), (4, vI (bz (pA (fhd fr)))), (16, vI (1)), (15, vI (R r (3 + c))), (0, .ref (gw_ad w k)), (1, vI (r)), (2, .ref (gw_ad w t)), (3, vI (row)), (13, vI (R r 0))]) 8 rfl (by decide) rfl dX2_holds_263 ?_
                        refine g_goto (pc := 266) (tgt := 32) hX dX2_holds_266 (by decide) ?_
                        refine g_sub (lv2 := [(14, vI (c + 1)), (0, .ref (gw_ad w k)), (1, vI (r)), (2, .ref (gw_ad w t)), (3, vI (row)), (4, vI (bz (pA (fhd fr)))), (5, vI (0)), (6, vI (0)), (7, vL (enc pA fr.tail)), (9, vL (enc pL fr.tail)), (11, vL (enc pN fr.tail)), (13, vI (R r 0))]) [0, 9, 10, 11, 12, 6, 5, 4, 3, 2, 1, 13] rfl ?_
                        refine g_at rfl (lv2 := [(14, vI (c + 1)), (0, .ref (gw_ad w k)), (1, vI (r)), (2, .ref (gw_ad w t)), (3, vI (row)), (4, vI (bz (pA (fhd fr)))), (5, vI (0)), (6, vI (0)), (7, vL (enc pA fr.tail)), (9, vL (enc pL fr.tail)), (11, vL (enc pN fr.tail)), (13, vI (R r 0))]) (rfl) rfl (S2 := S) (rfl) ?_
                        exact ihloop (c + 1) (pA (fhd fr)) (false) (false) (fr.tail) (by omega) (by omega) (by omega) (by rw [evN_s _ _ h1c, es]; simp [ev1, c_36, c_57, c_79, c_125, c_155, c_160, c_165, c_187, c_197])
                      · skip
                        refine g_iconst (pc := 200) hX dX2_holds_200 ?_
                        refine g_goto (pc := 201) (tgt := 205) hX dX2_holds_201 (by decide) ?_
                        refine g_istore (pc := 205) hX (lv2 := [(5, vI (1)), (4, vI (bz (pA (fhd fr)))), (16, vI (1)), (15, vI (R r (3 + c))), (14, vI (c)), (0, .ref (gw_ad w k)), (1, vI (r)), (2, .ref (gw_ad w t)), (3, vI (row)), (6, vI (bz (n0_))), (7, vL (enc pA fr)), (9, vL (enc pL fr)), (11, vL (enc pN fr)), (13, vI (R r 0))]) (by decide) rfl dX2_holds_205 ?_
                        refine g_iconst (pc := 207) hX dX2_holds_207 ?_
                        refine g_istore (pc := 208) hX (lv2 := [(6, vI (0)), (5, vI (1)), (4, vI (bz (pA (fhd fr)))), (16, vI (1)), (15, vI (R r (3 + c))), (14, vI (c)), (0, .ref (gw_ad w k)), (1, vI (r)), (2, .ref (gw_ad w t)), (3, vI (row)), (7, vL (enc pA fr)), (9, vL (enc pL fr)), (11, vL (enc pN fr)), (13, vI (R r 0))]) (by decide) rfl dX2_holds_208 ?_
                        refine g_lload (pc := 210) hX 10 rfl dX2_holds_210 ?_
                        refine g_iconst (pc := 212) hX dX2_holds_212 ?_
                        refine g_lshr (pc := 213) hX (z := enc pA fr.tail) (by rw [← enc_half]; exact lI_shr1 (enc_b pA hlen).1 (by have := (enc_b pA hlen).2; omega)) dX2_holds_213 ?_
                        refine g_lstore (pc := 214) hX (lv2 := [(7, vL (enc pA fr.tail)), (6, vI (0)), (5, vI (1)), (4, vI (bz (pA (fhd fr)))), (16, vI (1)), (15, vI (R r (3 + c))), (14, vI (c)), (0, .ref (gw_ad w k)), (1, vI (r)), (2, .ref (gw_ad w t)), (3, vI (row)), (9, vL (enc pL fr)), (11, vL (enc pN fr)), (13, vI (R r 0))]) (by decide) rfl dX2_holds_214 ?_
                        refine g_lload (pc := 216) hX 11 rfl dX2_holds_216 ?_
                        refine g_iconst (pc := 218) hX dX2_holds_218 ?_
                        refine g_lshr (pc := 219) hX (z := enc pL fr.tail) (by rw [← enc_half]; exact lI_shr1 (enc_b pL hlen).1 (by have := (enc_b pL hlen).2; omega)) dX2_holds_219 ?_
                        refine g_lstore (pc := 220) hX (lv2 := [(9, vL (enc pL fr.tail)), (7, vL (enc pA fr.tail)), (6, vI (0)), (5, vI (1)), (4, vI (bz (pA (fhd fr)))), (16, vI (1)), (15, vI (R r (3 + c))), (14, vI (c)), (0, .ref (gw_ad w k)), (1, vI (r)), (2, .ref (gw_ad w t)), (3, vI (row)), (11, vL (enc pN fr)), (13, vI (R r 0))]) (by decide) rfl dX2_holds_220 ?_
                        refine g_lload (pc := 222) hX 12 rfl dX2_holds_222 ?_
                        refine g_iconst (pc := 224) hX dX2_holds_224 ?_
                        refine g_lshr (pc := 225) hX (z := enc pN fr.tail) (by rw [← enc_half]; exact lI_shr1 (enc_b pN hlen).1 (by have := (enc_b pN hlen).2; omega)) dX2_holds_225 ?_
                        refine g_lstore (pc := 226) hX (lv2 := [(11, vL (enc pN fr.tail)), (9, vL (enc pL fr.tail)), (7, vL (enc pA fr.tail)), (6, vI (0)), (5, vI (1)), (4, vI (bz (pA (fhd fr)))), (16, vI (1)), (15, vI (R r (3 + c))), (14, vI (c)), (0, .ref (gw_ad w k)), (1, vI (r)), (2, .ref (gw_ad w t)), (3, vI (row)), (13, vI (R r 0))]) (by decide) rfl dX2_holds_226 ?_
                        refine g_goto (pc := 228) (tgt := 263) hX dX2_holds_228 (by decide) ?_
                        refine g_iinc (pc := 263) hX (lv2 := [(14, vI (c + 1)), (11, vL (enc pN fr.tail)), (9, vL (enc pL fr.tail)), (7, vL (enc pA fr.tail)), (6, vI (0)), (5, vI (1)), (4, vI (bz (pA (fhd fr)))), (16, vI (1)), (15, vI (R r (3 + c))), (0, .ref (gw_ad w k)), (1, vI (r)), (2, .ref (gw_ad w t)), (3, vI (row)), (13, vI (R r 0))]) 8 rfl (by decide) rfl dX2_holds_263 ?_
                        refine g_goto (pc := 266) (tgt := 32) hX dX2_holds_266 (by decide) ?_
                        refine g_sub (lv2 := [(14, vI (c + 1)), (0, .ref (gw_ad w k)), (1, vI (r)), (2, .ref (gw_ad w t)), (3, vI (row)), (4, vI (bz (pA (fhd fr)))), (5, vI (1)), (6, vI (0)), (7, vL (enc pA fr.tail)), (9, vL (enc pL fr.tail)), (11, vL (enc pN fr.tail)), (13, vI (R r 0))]) [0, 9, 10, 11, 12, 6, 5, 4, 3, 2, 1, 13] rfl ?_
                        refine g_at rfl (lv2 := [(14, vI (c + 1)), (0, .ref (gw_ad w k)), (1, vI (r)), (2, .ref (gw_ad w t)), (3, vI (row)), (4, vI (bz (pA (fhd fr)))), (5, vI (1)), (6, vI (0)), (7, vL (enc pA fr.tail)), (9, vL (enc pL fr.tail)), (11, vL (enc pN fr.tail)), (13, vI (R r 0))]) (rfl) rfl (S2 := S) (rfl) ?_
                        exact ihloop (c + 1) (pA (fhd fr)) (true) (false) (fr.tail) (by omega) (by omega) (by omega) (by rw [evN_s _ _ h1c, es]; simp [ev1, c_36, c_57, c_79, c_125, c_155, c_160, c_165, c_187, c_197])
            · skip
              refine g_iload (pc := 128) hX 6 rfl dX2_holds_128 ?_
              refine g_bif_ne (pc := 130) (tgt := 138) hX dX2_holds_130 (by decide) (fun c_130 => ?_) (fun c_130 => ?_)
              · skip
                refine g_iconst (pc := 138) hX dX2_holds_138 ?_
                refine g_goto (pc := 139) (tgt := 143) hX dX2_holds_139 (by decide) ?_
                refine g_istore (pc := 143) hX (lv2 := [(4, vI (1)), (15, vI (R r (3 + c))), (14, vI (c)), (0, .ref (gw_ad w k)), (1, vI (r)), (2, .ref (gw_ad w t)), (3, vI (row)), (5, vI (bz (b))), (6, vI (bz (n0_))), (7, vL (enc pA fr)), (9, vL (enc pL fr)), (11, vL (enc pN fr)), (13, vI (R r 0))]) (by decide) rfl dX2_holds_143 ?_
                refine g_iconst (pc := 145) hX dX2_holds_145 ?_
                refine g_istore (pc := 146) hX (lv2 := [(5, vI (1)), (4, vI (1)), (15, vI (R r (3 + c))), (14, vI (c)), (0, .ref (gw_ad w k)), (1, vI (r)), (2, .ref (gw_ad w t)), (3, vI (row)), (6, vI (bz (n0_))), (7, vL (enc pA fr)), (9, vL (enc pL fr)), (11, vL (enc pN fr)), (13, vI (R r 0))]) (by decide) rfl dX2_holds_146 ?_
                refine g_goto (pc := 148) (tgt := 263) hX dX2_holds_148 (by decide) ?_
                refine g_iinc (pc := 263) hX (lv2 := [(14, vI (c + 1)), (5, vI (1)), (4, vI (1)), (15, vI (R r (3 + c))), (0, .ref (gw_ad w k)), (1, vI (r)), (2, .ref (gw_ad w t)), (3, vI (row)), (6, vI (bz (n0_))), (7, vL (enc pA fr)), (9, vL (enc pL fr)), (11, vL (enc pN fr)), (13, vI (R r 0))]) 3 rfl (by decide) rfl dX2_holds_263 ?_
                refine g_goto (pc := 266) (tgt := 32) hX dX2_holds_266 (by decide) ?_
                refine g_sub (lv2 := [(14, vI (c + 1)), (0, .ref (gw_ad w k)), (1, vI (r)), (2, .ref (gw_ad w t)), (3, vI (row)), (4, vI (1)), (5, vI (1)), (6, vI (bz (n0_))), (7, vL (enc pA fr)), (9, vL (enc pL fr)), (11, vL (enc pN fr)), (13, vI (R r 0))]) [0, 4, 5, 6, 7, 2, 1, 8, 9, 10, 11, 12] rfl ?_
                refine g_at rfl (lv2 := [(14, vI (c + 1)), (0, .ref (gw_ad w k)), (1, vI (r)), (2, .ref (gw_ad w t)), (3, vI (row)), (4, vI (1)), (5, vI (1)), (6, vI (bz (n0_))), (7, vL (enc pA fr)), (9, vL (enc pL fr)), (11, vL (enc pN fr)), (13, vI (R r 0))]) (rfl) rfl (S2 := S) (rfl) ?_
                exact ihloop (c + 1) (true) (true) (n0_) (fr) (by omega) (by omega) (by omega) (by rw [evN_s _ _ h1c, es]; simp [ev1, c_36, c_57, c_79, c_125, c_130])
              · skip
                refine g_iload (pc := 133) hX 7 rfl dX2_holds_133 ?_
                refine g_bif_eq (pc := 135) (tgt := 142) hX dX2_holds_135 (by decide) (fun c_135 => ?_) (fun c_135 => ?_)
                · skip
                  refine g_iconst (pc := 142) hX dX2_holds_142 ?_
                  refine g_istore (pc := 143) hX (lv2 := [(4, vI (0)), (15, vI (R r (3 + c))), (14, vI (c)), (0, .ref (gw_ad w k)), (1, vI (r)), (2, .ref (gw_ad w t)), (3, vI (row)), (5, vI (bz (b))), (6, vI (bz (n0_))), (7, vL (enc pA fr)), (9, vL (enc pL fr)), (11, vL (enc pN fr)), (13, vI (R r 0))]) (by decide) rfl dX2_holds_143 ?_
                  refine g_iconst (pc := 145) hX dX2_holds_145 ?_
                  refine g_istore (pc := 146) hX (lv2 := [(5, vI (1)), (4, vI (0)), (15, vI (R r (3 + c))), (14, vI (c)), (0, .ref (gw_ad w k)), (1, vI (r)), (2, .ref (gw_ad w t)), (3, vI (row)), (6, vI (bz (n0_))), (7, vL (enc pA fr)), (9, vL (enc pL fr)), (11, vL (enc pN fr)), (13, vI (R r 0))]) (by decide) rfl dX2_holds_146 ?_
                  refine g_goto (pc := 148) (tgt := 263) hX dX2_holds_148 (by decide) ?_
                  refine g_iinc (pc := 263) hX (lv2 := [(14, vI (c + 1)), (5, vI (1)), (4, vI (0)), (15, vI (R r (3 + c))), (0, .ref (gw_ad w k)), (1, vI (r)), (2, .ref (gw_ad w t)), (3, vI (row)), (6, vI (bz (n0_))), (7, vL (enc pA fr)), (9, vL (enc pL fr)), (11, vL (enc pN fr)), (13, vI (R r 0))]) 3 rfl (by decide) rfl dX2_holds_263 ?_
                  refine g_goto (pc := 266) (tgt := 32) hX dX2_holds_266 (by decide) ?_
                  refine g_sub (lv2 := [(14, vI (c + 1)), (0, .ref (gw_ad w k)), (1, vI (r)), (2, .ref (gw_ad w t)), (3, vI (row)), (4, vI (0)), (5, vI (1)), (6, vI (bz (n0_))), (7, vL (enc pA fr)), (9, vL (enc pL fr)), (11, vL (enc pN fr)), (13, vI (R r 0))]) [0, 4, 5, 6, 7, 2, 1, 8, 9, 10, 11, 12] rfl ?_
                  refine g_at rfl (lv2 := [(14, vI (c + 1)), (0, .ref (gw_ad w k)), (1, vI (r)), (2, .ref (gw_ad w t)), (3, vI (row)), (4, vI (0)), (5, vI (1)), (6, vI (bz (n0_))), (7, vL (enc pA fr)), (9, vL (enc pL fr)), (11, vL (enc pN fr)), (13, vI (R r 0))]) (rfl) rfl (S2 := S) (rfl) ?_
                  exact ihloop (c + 1) (false) (true) (n0_) (fr) (by omega) (by omega) (by omega) (by rw [evN_s _ _ h1c, es]; simp [ev1, c_36, c_57, c_79, c_125, c_130, c_135])
                · skip
                  refine g_iconst (pc := 138) hX dX2_holds_138 ?_
                  refine g_goto (pc := 139) (tgt := 143) hX dX2_holds_139 (by decide) ?_
                  refine g_istore (pc := 143) hX (lv2 := [(4, vI (1)), (15, vI (R r (3 + c))), (14, vI (c)), (0, .ref (gw_ad w k)), (1, vI (r)), (2, .ref (gw_ad w t)), (3, vI (row)), (5, vI (bz (b))), (6, vI (bz (n0_))), (7, vL (enc pA fr)), (9, vL (enc pL fr)), (11, vL (enc pN fr)), (13, vI (R r 0))]) (by decide) rfl dX2_holds_143 ?_
                  refine g_iconst (pc := 145) hX dX2_holds_145 ?_
                  refine g_istore (pc := 146) hX (lv2 := [(5, vI (1)), (4, vI (1)), (15, vI (R r (3 + c))), (14, vI (c)), (0, .ref (gw_ad w k)), (1, vI (r)), (2, .ref (gw_ad w t)), (3, vI (row)), (6, vI (bz (n0_))), (7, vL (enc pA fr)), (9, vL (enc pL fr)), (11, vL (enc pN fr)), (13, vI (R r 0))]) (by decide) rfl dX2_holds_146 ?_
                  refine g_goto (pc := 148) (tgt := 263) hX dX2_holds_148 (by decide) ?_
                  refine g_iinc (pc := 263) hX (lv2 := [(14, vI (c + 1)), (5, vI (1)), (4, vI (1)), (15, vI (R r (3 + c))), (0, .ref (gw_ad w k)), (1, vI (r)), (2, .ref (gw_ad w t)), (3, vI (row)), (6, vI (bz (n0_))), (7, vL (enc pA fr)), (9, vL (enc pL fr)), (11, vL (enc pN fr)), (13, vI (R r 0))]) 3 rfl (by decide) rfl dX2_holds_263 ?_
                  refine g_goto (pc := 266) (tgt := 32) hX dX2_holds_266 (by decide) ?_
                  refine g_sub (lv2 := [(14, vI (c + 1)), (0, .ref (gw_ad w k)), (1, vI (r)), (2, .ref (gw_ad w t)), (3, vI (row)), (4, vI (1)), (5, vI (1)), (6, vI (bz (n0_))), (7, vL (enc pA fr)), (9, vL (enc pL fr)), (11, vL (enc pN fr)), (13, vI (R r 0))]) [0, 4, 5, 6, 7, 2, 1, 8, 9, 10, 11, 12] rfl ?_
                  refine g_at rfl (lv2 := [(14, vI (c + 1)), (0, .ref (gw_ad w k)), (1, vI (r)), (2, .ref (gw_ad w t)), (3, vI (row)), (4, vI (1)), (5, vI (1)), (6, vI (bz (n0_))), (7, vL (enc pA fr)), (9, vL (enc pL fr)), (11, vL (enc pN fr)), (13, vI (R r 0))]) (rfl) rfl (S2 := S) (rfl) ?_
                  exact ihloop (c + 1) (true) (true) (n0_) (fr) (by omega) (by omega) (by omega) (by rw [evN_s _ _ h1c, es]; simp [ev1, c_36, c_57, c_79, c_125, c_130, c_135])
          · skip
            refine g_lload (pc := 82) hX 9 rfl dX2_holds_82 ?_
            refine g_iload (pc := 84) hX 6 rfl dX2_holds_84 ?_
            refine g_callT1 (pc := 86) (As := [vL (enc pA fr), vI (bz (a))]) (st2 := []) hX (c_X2_pushed (x := enc pA fr) (b := a) (enc_b pA hlen).1) gX2_holds_X2_pushed (n := 2) (hw := rfl) (hrc := rfl) (hrs := rfl) (hd := by decide +kernel) (hR := ⟨Nat.le_of_ble_eq_true rfl, Nat.le_of_ble_eq_true rfl⟩) (hn := rfl) (hst := rfl) (hsum := Nat.le_of_ble_eq_true rfl) (hdg := dX2_holds_86) ?_
            rintro _ S9 ⟨rfl, e9⟩
            rw [e9]
            clear e9 S9
            refine g_at (pc2 := 89) rfl rfl (st2 := [vL (2 * enc pA fr + bz a)]) rfl (S2 := S) rfl ?_
            refine g_lstore (pc := 89) hX (lv2 := [(7, vL (2 * enc pA fr + bz a)), (15, vI (R r (3 + c))), (14, vI (c)), (0, .ref (gw_ad w k)), (1, vI (r)), (2, .ref (gw_ad w t)), (3, vI (row)), (4, vI (bz (a))), (5, vI (bz (b))), (6, vI (bz (n0_))), (9, vL (enc pL fr)), (11, vL (enc pN fr)), (13, vI (R r 0))]) (by decide) rfl dX2_holds_89 ?_
            refine g_lload (pc := 91) hX 10 rfl dX2_holds_91 ?_
            refine g_iload (pc := 93) hX 8 rfl dX2_holds_93 ?_
            refine g_callT1 (pc := 95) (As := [vL (enc pL fr), vI (bz (b))]) (st2 := []) hX (c_X2_pushed (x := enc pL fr) (b := b) (enc_b pL hlen).1) gX2_holds_X2_pushed (n := 2) (hw := rfl) (hrc := rfl) (hrs := rfl) (hd := by decide +kernel) (hR := ⟨Nat.le_of_ble_eq_true rfl, Nat.le_of_ble_eq_true rfl⟩) (hn := rfl) (hst := rfl) (hsum := Nat.le_of_ble_eq_true rfl) (hdg := dX2_holds_95) ?_
            rintro _ S9 ⟨rfl, e9⟩
            rw [e9]
            clear e9 S9
            refine g_at (pc2 := 98) rfl rfl (st2 := [vL (2 * enc pL fr + bz b)]) rfl (S2 := S) rfl ?_
            refine g_lstore (pc := 98) hX (lv2 := [(9, vL (2 * enc pL fr + bz b)), (7, vL (2 * enc pA fr + bz a)), (15, vI (R r (3 + c))), (14, vI (c)), (0, .ref (gw_ad w k)), (1, vI (r)), (2, .ref (gw_ad w t)), (3, vI (row)), (4, vI (bz (a))), (5, vI (bz (b))), (6, vI (bz (n0_))), (11, vL (enc pN fr)), (13, vI (R r 0))]) (by decide) rfl dX2_holds_98 ?_
            refine g_lload (pc := 100) hX 11 rfl dX2_holds_100 ?_
            refine g_iload (pc := 102) hX 10 rfl dX2_holds_102 ?_
            refine g_callT1 (pc := 104) (As := [vL (enc pN fr), vI (bz (n0_))]) (st2 := []) hX (c_X2_pushed (x := enc pN fr) (b := n0_) (enc_b pN hlen).1) gX2_holds_X2_pushed (n := 2) (hw := rfl) (hrc := rfl) (hrs := rfl) (hd := by decide +kernel) (hR := ⟨Nat.le_of_ble_eq_true rfl, Nat.le_of_ble_eq_true rfl⟩) (hn := rfl) (hst := rfl) (hsum := Nat.le_of_ble_eq_true rfl) (hdg := dX2_holds_104) ?_
            rintro _ S9 ⟨rfl, e9⟩
            rw [e9]
            clear e9 S9
            refine g_at (pc2 := 107) rfl rfl (st2 := [vL (2 * enc pN fr + bz n0_)]) rfl (S2 := S) rfl ?_
            refine g_lstore (pc := 107) hX (lv2 := [(11, vL (2 * enc pN fr + bz n0_)), (9, vL (2 * enc pL fr + bz b)), (7, vL (2 * enc pA fr + bz a)), (15, vI (R r (3 + c))), (14, vI (c)), (0, .ref (gw_ad w k)), (1, vI (r)), (2, .ref (gw_ad w t)), (3, vI (row)), (4, vI (bz (a))), (5, vI (bz (b))), (6, vI (bz (n0_))), (13, vI (R r 0))]) (by decide) rfl dX2_holds_107 ?_
            refine g_iconst (pc := 109) hX dX2_holds_109 ?_
            refine g_istore (pc := 110) hX (lv2 := [(4, vI (0)), (11, vL (2 * enc pN fr + bz n0_)), (9, vL (2 * enc pL fr + bz b)), (7, vL (2 * enc pA fr + bz a)), (15, vI (R r (3 + c))), (14, vI (c)), (0, .ref (gw_ad w k)), (1, vI (r)), (2, .ref (gw_ad w t)), (3, vI (row)), (5, vI (bz (b))), (6, vI (bz (n0_))), (13, vI (R r 0))]) (by decide) rfl dX2_holds_110 ?_
            refine g_iconst (pc := 112) hX dX2_holds_112 ?_
            refine g_istore (pc := 113) hX (lv2 := [(5, vI (1)), (4, vI (0)), (11, vL (2 * enc pN fr + bz n0_)), (9, vL (2 * enc pL fr + bz b)), (7, vL (2 * enc pA fr + bz a)), (15, vI (R r (3 + c))), (14, vI (c)), (0, .ref (gw_ad w k)), (1, vI (r)), (2, .ref (gw_ad w t)), (3, vI (row)), (6, vI (bz (n0_))), (13, vI (R r 0))]) (by decide) rfl dX2_holds_113 ?_
            refine g_iconst (pc := 115) hX dX2_holds_115 ?_
            refine g_istore (pc := 116) hX (lv2 := [(6, vI (0)), (5, vI (1)), (4, vI (0)), (11, vL (2 * enc pN fr + bz n0_)), (9, vL (2 * enc pL fr + bz b)), (7, vL (2 * enc pA fr + bz a)), (15, vI (R r (3 + c))), (14, vI (c)), (0, .ref (gw_ad w k)), (1, vI (r)), (2, .ref (gw_ad w t)), (3, vI (row)), (13, vI (R r 0))]) (by decide) rfl dX2_holds_116 ?_
            refine g_goto (pc := 118) (tgt := 263) hX dX2_holds_118 (by decide) ?_
            refine g_iinc (pc := 263) hX (lv2 := [(14, vI (c + 1)), (6, vI (0)), (5, vI (1)), (4, vI (0)), (11, vL (2 * enc pN fr + bz n0_)), (9, vL (2 * enc pL fr + bz b)), (7, vL (2 * enc pA fr + bz a)), (15, vI (R r (3 + c))), (0, .ref (gw_ad w k)), (1, vI (r)), (2, .ref (gw_ad w t)), (3, vI (row)), (13, vI (R r 0))]) 7 rfl (by decide) rfl dX2_holds_263 ?_
            refine g_goto (pc := 266) (tgt := 32) hX dX2_holds_266 (by decide) ?_
            refine g_sub (lv2 := [(14, vI (c + 1)), (0, .ref (gw_ad w k)), (1, vI (r)), (2, .ref (gw_ad w t)), (3, vI (row)), (4, vI (0)), (5, vI (1)), (6, vI (0)), (7, vL (2 * enc pA fr + bz a)), (9, vL (2 * enc pL fr + bz b)), (11, vL (2 * enc pN fr + bz n0_)), (13, vI (R r 0))]) [0, 8, 9, 10, 11, 3, 2, 1, 6, 5, 4, 12] rfl ?_
            refine g_at rfl (lv2 := [(14, vI (c + 1)), (0, .ref (gw_ad w k)), (1, vI (r)), (2, .ref (gw_ad w t)), (3, vI (row)), (4, vI (0)), (5, vI (1)), (6, vI (0)), (7, vL (2 * enc pA fr + bz a)), (9, vL (2 * enc pL fr + bz b)), (11, vL (2 * enc pN fr + bz n0_)), (13, vI (R r 0))]) (rfl) rfl (S2 := S) (rfl) ?_
            exact ihloop (c + 1) (false) (true) (false) ((a, b, n0_) :: fr) (by omega) (by omega) (by omega) (by rw [evN_s _ _ h1c, es]; simp [ev1, c_36, c_57, c_79])
        · skip
          refine g_iload (pc := 60) hX 8 rfl dX2_holds_60 ?_
          refine g_bif_ne (pc := 62) (tgt := 69) hX dX2_holds_62 (by decide) (fun c_62 => ?_) (fun c_62 => ?_)
          · skip
            refine g_iconst (pc := 69) hX dX2_holds_69 ?_
            refine g_istore (pc := 70) hX (lv2 := [(6, vI (0)), (15, vI (R r (3 + c))), (14, vI (c)), (0, .ref (gw_ad w k)), (1, vI (r)), (2, .ref (gw_ad w t)), (3, vI (row)), (4, vI (bz (a))), (5, vI (bz (b))), (7, vL (enc pA fr)), (9, vL (enc pL fr)), (11, vL (enc pN fr)), (13, vI (R r 0))]) (by decide) rfl dX2_holds_70 ?_
            refine g_goto (pc := 72) (tgt := 263) hX dX2_holds_72 (by decide) ?_
            refine g_iinc (pc := 263) hX (lv2 := [(14, vI (c + 1)), (6, vI (0)), (15, vI (R r (3 + c))), (0, .ref (gw_ad w k)), (1, vI (r)), (2, .ref (gw_ad w t)), (3, vI (row)), (4, vI (bz (a))), (5, vI (bz (b))), (7, vL (enc pA fr)), (9, vL (enc pL fr)), (11, vL (enc pN fr)), (13, vI (R r 0))]) 2 rfl (by decide) rfl dX2_holds_263 ?_
            refine g_goto (pc := 266) (tgt := 32) hX dX2_holds_266 (by decide) ?_
            refine g_sub (lv2 := [(14, vI (c + 1)), (0, .ref (gw_ad w k)), (1, vI (r)), (2, .ref (gw_ad w t)), (3, vI (row)), (4, vI (bz (a))), (5, vI (bz (b))), (6, vI (0)), (7, vL (enc pA fr)), (9, vL (enc pL fr)), (11, vL (enc pN fr)), (13, vI (R r 0))]) [0, 3, 4, 5, 6, 7, 8, 1, 9, 10, 11, 12] rfl ?_
            refine g_at rfl (lv2 := [(14, vI (c + 1)), (0, .ref (gw_ad w k)), (1, vI (r)), (2, .ref (gw_ad w t)), (3, vI (row)), (4, vI (bz (a))), (5, vI (bz (b))), (6, vI (0)), (7, vL (enc pA fr)), (9, vL (enc pL fr)), (11, vL (enc pN fr)), (13, vI (R r 0))]) (rfl) rfl (S2 := S) (rfl) ?_
            exact ihloop (c + 1) (a) (b) (false) (fr) (by omega) (by omega) (by omega) (by rw [evN_s _ _ h1c, es]; simp [ev1, c_36, c_57, c_62])
          · skip
            refine g_iconst (pc := 65) hX dX2_holds_65 ?_
            refine g_goto (pc := 66) (tgt := 70) hX dX2_holds_66 (by decide) ?_
            refine g_istore (pc := 70) hX (lv2 := [(6, vI (1)), (15, vI (R r (3 + c))), (14, vI (c)), (0, .ref (gw_ad w k)), (1, vI (r)), (2, .ref (gw_ad w t)), (3, vI (row)), (4, vI (bz (a))), (5, vI (bz (b))), (7, vL (enc pA fr)), (9, vL (enc pL fr)), (11, vL (enc pN fr)), (13, vI (R r 0))]) (by decide) rfl dX2_holds_70 ?_
            refine g_goto (pc := 72) (tgt := 263) hX dX2_holds_72 (by decide) ?_
            refine g_iinc (pc := 263) hX (lv2 := [(14, vI (c + 1)), (6, vI (1)), (15, vI (R r (3 + c))), (0, .ref (gw_ad w k)), (1, vI (r)), (2, .ref (gw_ad w t)), (3, vI (row)), (4, vI (bz (a))), (5, vI (bz (b))), (7, vL (enc pA fr)), (9, vL (enc pL fr)), (11, vL (enc pN fr)), (13, vI (R r 0))]) 2 rfl (by decide) rfl dX2_holds_263 ?_
            refine g_goto (pc := 266) (tgt := 32) hX dX2_holds_266 (by decide) ?_
            refine g_sub (lv2 := [(14, vI (c + 1)), (0, .ref (gw_ad w k)), (1, vI (r)), (2, .ref (gw_ad w t)), (3, vI (row)), (4, vI (bz (a))), (5, vI (bz (b))), (6, vI (1)), (7, vL (enc pA fr)), (9, vL (enc pL fr)), (11, vL (enc pN fr)), (13, vI (R r 0))]) [0, 3, 4, 5, 6, 7, 8, 1, 9, 10, 11, 12] rfl ?_
            refine g_at rfl (lv2 := [(14, vI (c + 1)), (0, .ref (gw_ad w k)), (1, vI (r)), (2, .ref (gw_ad w t)), (3, vI (row)), (4, vI (bz (a))), (5, vI (bz (b))), (6, vI (1)), (7, vL (enc pA fr)), (9, vL (enc pL fr)), (11, vL (enc pN fr)), (13, vI (R r 0))]) (rfl) rfl (S2 := S) (rfl) ?_
            exact ihloop (c + 1) (a) (b) (true) (fr) (by omega) (by omega) (by omega) (by rw [evN_s _ _ h1c, es]; simp [ev1, c_36, c_57, c_62])
  refine g_sub (lv2 := [(14, vI (0)), (0, .ref (gw_ad w k)), (1, vI (r)), (2, .ref (gw_ad w t)), (3, vI (row)), (4, vI (0)), (5, vI (1)), (6, vI (0)), (7, vL (0)), (9, vL (0)), (11, vL (0)), (13, vI (R r 0))]) [0, 8, 9, 10, 11, 7, 6, 5, 4, 3, 2, 1] rfl ?_
  refine g_at rfl (lv2 := [(14, vI (0)), (0, .ref (gw_ad w k)), (1, vI (r)), (2, .ref (gw_ad w t)), (3, vI (row)), (4, vI (0)), (5, vI (1)), (6, vI (0)), (7, vL (0)), (9, vL (0)), (11, vL (0)), (13, vI (R r 0))]) (rfl) rfl (S2 := S) (rfl) ?_
  exact loop ((R r 0 : Int) - 0 + 1).toNat 0 (false) (true) (false) ([]) (by omega) (by omega) (by omega) (rfl)
