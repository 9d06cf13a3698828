/-! ===== a new desk and a new reference: the loop's invariant at the start ===== -/
def z2F : Int → Int → Int := fun _ _ => 0
def stI : Int → Int := updZ (updZ (updZ (updZ (updZ (updZ (updZ (updZ (z0F) (0) (0)) (1) (0)) (2) (10)) (3) (30000)) (4) (10)) (5) (5)) (6) (5000)) (7) (100)
def exI : Int → Int := updZ (updZ (updZ (updZ (z0F) (0) (100)) (1) (100)) (2) (100)) (3) (100)
def D0 : SD := (stI, z0F, z0F, exI, z2F, z2F, 0, z2F, 0, z2F, 0, z2F, 0, z2F)
theorem inI_z : inI 0 := inI_0
theorem ar_0 : arI D0 := ⟨fun _ _ => inI_0, fun _ _ => inI_0, fun _ _ => inI_0, fun _ _ => inI_0, fun _ _ => inI_0, fun _ _ => inI_0⟩
theorem stOK_0 : stOK D0 := by
  have hF : scF stI := by unfold scF; decide
  have hG : scG z0F := by unfold scG; decide
  refine ⟨⟨⟨hF, hG⟩, ⟨fun z a b => ⟨Int.le_refl 0, by show (0 : Int) ≤ 6; decide⟩, fun _ _ => inI_0, fun _ _ => inI_0, fun z a b => ⟨?_, fun i c d => absurd d (by show ¬ i < 0; omega)⟩⟩, ⟨⟨Int.le_refl 0, by show (0 : Int) ≤ 8; decide⟩, fun r a b => absurd b (by show ¬ r < 0; omega)⟩, fun _ _ => inI_0⟩, ⟨⟨Int.le_refl 0, by show (0 : Int) ≤ 30; decide⟩, fun _ _ => inI_0, fun p a b => absurd b (by show ¬ p < 0; omega)⟩, ⟨⟨Int.le_refl 0, by show (0 : Int) ≤ 20; decide⟩, fun _ _ => inI_0, fun p a b => absurd b (by show ¬ p < 0; omega)⟩, ⟨rfl, fun _ _ => inI_0, fun p a b => absurd b (by show ¬ p < 0; omega)⟩, by show (0 : Int) ≤ 0 ∧ (0 : Int) ≤ 100000 ∧ (0 : Int) ≤ 2; decide⟩
  show 0 ≤ exI z ∧ exI z ≤ 10000
  rcases (show z = 0 ∨ z = 1 ∨ z = 2 ∨ z = 3 by omega) with e | e | e | e <;> subst e <;> decide
theorem mV_0 (s0 : Int → rdS) : mV D0 V0z s0 := by
  refine mV.mk (fun i a b => ?_) (fun z a b => ?_) ⟨rfl, fun k a b => absurd b (by show ¬ k < 0; omega)⟩ ⟨⟨rfl, rfl, rfl, rfl, rfl, rfl⟩, ⟨by decide, by decide⟩, fun h => absurd h (by decide), fun h => absurd h (by decide), fun h => absurd h (by decide)⟩ ⟨⟨rfl, rfl, rfl⟩, fun p a b => absurd b (by show ¬ p < 0; omega), fun p a b => absurd b (by show ¬ p < 0; omega), fun n m a b => absurd b (by show ¬ n < 0; omega), fun n a b => absurd b (by show ¬ n < 0; omega)⟩
  · rcases (show i = 0 ∨ i = 1 ∨ i = 2 ∨ i = 3 ∨ i = 4 ∨ i = 5 ∨ i = 6 ∨ i = 7 by omega) with e | e | e | e | e | e | e | e <;> subst e <;> rfl
  · rcases (show z = 0 ∨ z = 1 ∨ z = 2 ∨ z = 3 by omega) with e | e | e | e <;> subst e <;> exact ⟨rfl, rfl, fun i c d => absurd d (by show ¬ i < 0; omega)⟩
theorem V0z_o {j : Int} (h : 68 ≤ j) : V0z j = 0 := by
  unfold V0z
  rw [updZ_ne _ _ (by omega), updZ_ne _ _ (by omega), updZ_ne _ _ (by omega), updZ_ne _ _ (by omega), updZ_ne _ _ (by omega), updZ_ne _ _ (by omega), updZ_ne _ _ (by omega), updZ_ne _ _ (by omega), updZ_ne _ _ (by omega), updZ_ne _ _ (by omega)]
  rfl
theorem lim_up {V : Int → Int} (h : vLim V) {i x : Int} (hx : -1000000000000 ≤ x ∧ x ≤ 1000000000000) : vLim (updZ V i x) := fun j => by
  unfold updZ
  split
  · exact hx
  · exact h j
theorem lim_0 : vLim z0F := fun _ => ⟨by show (-1000000000000 : Int) ≤ 0; decide, by show (0 : Int) ≤ 1000000000000; decide⟩
theorem vOK_0 : vOK V0z := by
  refine ⟨by unfold rgV; decide, ?_, fun j a b => by rw [V0z_o (by omega)]; exact inI_0⟩
  unfold V0z
  exact lim_up (lim_up (lim_up (lim_up (lim_up (lim_up (lim_up (lim_up (lim_up (lim_up lim_0 (by decide)) (by decide)) (by decide)) (by decide)) (by decide)) (by decide)) (by decide)) (by decide)) (by decide)) (by decide)
theorem gd_0 (s0 : Int → rdS) : gdD D0 V0z s0 := ⟨stOK_0, fun z a b i j i0 ij j1 => absurd j1 (by show ¬ j < 0; omega), ⟨fun p a b => absurd b (by show ¬ p < 0; omega), fun p a b => absurd b (by show ¬ p < 0; omega)⟩, mV_0 s0, vOK_0⟩
theorem inv_0 {w : gW} {S : Nat → va_E} (hN : gw_N w = 105) (hd : deskAt w 0 0 0 z0F z0F z0F z2F D0 (fun _ => D0) S) (hm : modelAt w 0 0 0 0 0 0 false V0z z0F z0F z0F z0F z0F z0F z0F z0F z0F z0F z0F S) : INV w S := by
  refine ⟨0, 0, 0, z0F, z0F, z0F, z2F, D0, fun _ => D0, 0, 0, 0, 0, 0, 0, false, V0z, z0F, z0F, z0F, z0F, z0F, z0F, z0F, z0F, z0F, z0F, z0F, fun _ => (fun _ => 0, fun _ => 0), ⟨hN, hd, hm⟩, ⟨rfl, gd_0 _, fun _ => ⟨rfl, rfl, rfl⟩, ⟨⟨by decide, by decide⟩, lim_0, fun i _ => ⟨stOK_0.c, ar_0⟩, fun i hi => absurd hi (by omega)⟩⟩, ⟨rfl, ⟨by decide, by decide⟩, fun i a b => absurd b (by omega), fun _ => inI_0, fun _ => inI_0⟩, ⟨?_, fun _ => inI_0, fun _ _ => inI_0⟩, ⟨fun _ => inI_0, fun _ => inI_0, fun _ => inI_L inI_0, fun _ => Or.inl rfl⟩⟩
  unfold rdOK
  decide
