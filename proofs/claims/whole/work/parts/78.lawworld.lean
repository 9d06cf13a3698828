/-! ===== the cells of both constructors as the world of the walk ===== -/
def lwI (k : Nat) : Nat := if k = 0 then 0 else if k < 7 then k + 17 else if k < 24 then k - 6 else k
def lwL (c : Nat → ClassId) (h0 : Nat) (u : Nat → Nat) (h1 : Nat) (u1 : Nat → Nat) : va_W := dkL c h0 u (dkU u) ++ mdL c h1 u1
def lwA (c : Nat → ClassId) (h0 : Nat) (u : Nat → Nat) (h1 : Nat) (u1 : Nat → Nat) (k : Nat) : Nat := ((lwL c h0 u h1 u1)[lwI k]?.map Prod.fst).getD 0
def lwC (c : Nat → ClassId) (h0 : Nat) (u : Nat → Nat) (h1 : Nat) (u1 : Nat → Nat) (k : Nat) : va_E := ((lwL c h0 u h1 u1)[lwI k]?.map Prod.snd).getD (.inr (0, []))
abbrev lwW (D : va_G) (c : Nat → ClassId) (z : Nat) (t : Nat → Nat) (h0 : Nat) (u : Nat → Nat) (h1 : Nat) (u1 : Nat → Nat) : gW := (D, c, lwA c h0 u h1 u1, 105, z, t)
def lwS (c : Nat → ClassId) (h0 : Nat) (u : Nat → Nat) (h1 : Nat) (u1 : Nat → Nat) (k : Nat) : va_E := if k = 1 then .inl (c 3, 4, .inr (.inr (.inr (.inr (fun i => some (lwA c h0 u h1 u1 (24 + 17 * i))))))) else lwC c h0 u h1 u1 k
theorem lwL_len (c : Nat → ClassId) (h0 : Nat) (u : Nat → Nat) (h1 : Nat) (u1 : Nat → Nat) : (lwL c h0 u h1 u1).length = 105 := rfl
theorem lwI_lt {k : Nat} (h : k < 105) : lwI k < 105 := by
  unfold lwI
  split
  · omega
  · split
    · omega
    · split <;> omega
theorem lwI_inj {i j : Nat} (h : lwI i = lwI j) : i = j := by
  unfold lwI at h
  by_cases a : i = 0 <;> by_cases b : j = 0
  · omega
  all_goals (repeat' (split at h)) <;> omega
theorem lw_get {c : Nat → ClassId} {h0 : Nat} {u : Nat → Nat} {h1 : Nat} {u1 : Nat → Nat} {k : Nat} (h : k < 105) : (lwL c h0 u h1 u1)[lwI k]? = some (lwA c h0 u h1 u1 k, lwC c h0 u h1 u1 k) := by
  have hl : lwI k < (lwL c h0 u h1 u1).length := by rw [lwL_len]; exact lwI_lt h
  unfold lwA lwC
  rw [List.getElem?_eq_getElem hl]
  rfl
theorem lx_D {A : Nat → Prop} {D : va_G} {c : Nat → ClassId} {z : Nat} {t : Nat → Nat} {h0 : Nat} {u : Nat → Nat} {h1 : Nat} {u1 : Nat → Nat} (hA : A = fun q => z ≤ q) (hD : va_D A (lwL c h0 u h1 u1)) (S : Nat → va_E) : va_D (gA (lwW D c z t h0 u h1 u1)) (gws (lwW D c z t h0 u h1 u1) S) := by
  have key : ∀ (k : Nat) (q : Nat × va_E), (gws (lwW D c z t h0 u h1 u1) S)[k]? = some q → k < 105 ∧ q.1 = lwA c h0 u h1 u1 k := fun k q hk => by
    have hl : k < 105 := by
      have := (List.getElem?_eq_some_iff.mp hk).1
      rw [gws_len] at this
      exact this
    rw [gws_get (w := lwW D c z t h0 u h1 u1) hl] at hk
    cases hk
    exact ⟨hl, rfl⟩
  refine ⟨fun i j p q hp hq e => ?_, fun k q hk => ?_⟩
  · obtain ⟨a1, a2⟩ := key i p hp
    obtain ⟨b1, b2⟩ := key j q hq
    exact lwI_inj (hD.1 _ _ _ _ (lw_get a1) (lw_get b1) (by show lwA c h0 u h1 u1 i = lwA c h0 u h1 u1 j; rw [← a2, ← b2]; exact e))
  · obtain ⟨a1, a2⟩ := key k q hk
    have h := hD.2 _ _ (lw_get (c := c) (h0 := h0) (u := u) (h1 := h1) (u1 := u1) a1)
    rw [hA] at h
    show z ≤ q.1
    rw [a2]
    exact h
theorem arrV_c {cA : ClassId} {n : Nat} {f g : Nat → Value} (h : ∀ j : Nat, j < n → f j = g j) : arrV cA n f = arrV cA n g := by
  unfold arrV
  rw [show (fun j : Fin n => f j.val) = (fun j : Fin n => g j.val) from funext fun j => h j.val j.isLt]
theorem lx_P {D : va_G} {c : Nat → ClassId} {z : Nat} {t : Nat → Nat} {h0 : Nat} {u : Nat → Nat} {h1 : Nat} {u1 : Nat → Nat} {H : Heap} (hP : va_P D vwCl (lwL c h0 u h1 u1) H) : va_P D vwCl (gws (lwW D c z t h0 u h1 u1) (lwS c h0 u h1 u1)) H := by
  intro k q hk
  have hl : k < 105 := by
    have := (List.getElem?_eq_some_iff.mp hk).1
    rw [gws_len] at this
    exact this
  rw [gws_get (w := lwW D c z t h0 u h1 u1) hl] at hk
  cases hk
  have h := hP _ _ (lw_get (c := c) (h0 := h0) (u := u) (h1 := h1) (u1 := u1) hl)
  show va_at D vwCl (lwA c h0 u h1 u1 k, lwS c h0 u h1 u1 k) H
  by_cases hk1 : k = 1
  · subst hk1
    have h2 : H[lwA c h0 u h1 u1 1]? = some (arrV (c 3) 4 (fun j => va_rf (va_up (va_up (va_up (va_up (fun _ => none) 0 (some (dkU u 1 0))) 1 (some (dkU u 2 0))) 2 (some (dkU u 3 0))) 3 (some (dkU u 4 0)) j))) := h
    show H[lwA c h0 u h1 u1 1]? = some (arrV (c 3) 4 (fun j => va_rf (some (lwA c h0 u h1 u1 (24 + 17 * j)))))
    rw [h2]
    refine congrArg some (arrV_c (fun j hj => ?_))
    match j, hj with
    | 0, _ => rfl
    | 1, _ => rfl
    | 2, _ => rfl
    | 3, _ => rfl
  · unfold lwS
    rw [if_neg hk1]
    exact h
theorem lw_desk {D : va_G} {c : Nat → ClassId} {z : Nat} {t : Nat → Nat} {h0 : Nat} {u : Nat → Nat} {h1 : Nat} {u1 : Nat → Nat} : deskAt (lwW D c z t h0 u h1 u1) 0 0 0 z0F z0F z0F z2F D0 (fun _ => D0) (lwS c h0 u h1 u1) := by
  refine ⟨⟨rfl, rfl, rfl, rfl, rfl, rfl, rfl⟩, ⟨⟨⟨rfl, rfl, rfl⟩, ⟨rfl, rfl, rfl, rfl, rfl⟩, ⟨rfl, rfl, rfl⟩⟩, ⟨⟨rfl, rfl⟩, ⟨rfl, rfl⟩, ⟨rfl, rfl⟩⟩⟩, fun i hi => ?_⟩
  match i, hi with
  | 0, _ => exact ⟨⟨⟨rfl, rfl, rfl⟩, ⟨rfl, rfl, rfl, rfl, rfl⟩, ⟨rfl, rfl, rfl⟩⟩, ⟨⟨rfl, rfl⟩, ⟨rfl, rfl⟩, ⟨rfl, rfl⟩⟩⟩
  | 1, _ => exact ⟨⟨⟨rfl, rfl, rfl⟩, ⟨rfl, rfl, rfl, rfl, rfl⟩, ⟨rfl, rfl, rfl⟩⟩, ⟨⟨rfl, rfl⟩, ⟨rfl, rfl⟩, ⟨rfl, rfl⟩⟩⟩
  | 2, _ => exact ⟨⟨⟨rfl, rfl, rfl⟩, ⟨rfl, rfl, rfl, rfl, rfl⟩, ⟨rfl, rfl, rfl⟩⟩, ⟨⟨rfl, rfl⟩, ⟨rfl, rfl⟩, ⟨rfl, rfl⟩⟩⟩
  | 3, _ => exact ⟨⟨⟨rfl, rfl, rfl⟩, ⟨rfl, rfl, rfl, rfl, rfl⟩, ⟨rfl, rfl, rfl⟩⟩, ⟨⟨rfl, rfl⟩, ⟨rfl, rfl⟩, ⟨rfl, rfl⟩⟩⟩
theorem lw_mod {D : va_G} {c : Nat → ClassId} {z : Nat} {t : Nat → Nat} {h0 : Nat} {u : Nat → Nat} {h1 : Nat} {u1 : Nat → Nat} : modelAt (lwW D c z t h0 u h1 u1) 0 0 0 0 0 0 false V0z z0F z0F z0F z0F z0F z0F z0F z0F z0F z0F z0F (lwS c h0 u h1 u1) :=
  ⟨⟨rfl, rfl, rfl⟩, ⟨rfl, rfl⟩, ⟨rfl, rfl, rfl, rfl, rfl⟩, ⟨rfl, rfl, rfl⟩⟩
theorem lw_INV {D : va_G} {c : Nat → ClassId} {z : Nat} {t : Nat → Nat} {h0 : Nat} {u : Nat → Nat} {h1 : Nat} {u1 : Nat → Nat} : INV (lwW D c z t h0 u h1 u1) (lwS c h0 u h1 u1) := inv_0 rfl lw_desk lw_mod
