/-! ===== the cells of the constructor as the world of the walk ===== -/
def lwI (k : Nat) : Nat := if k = 0 then 0 else if k < 7 then k + 17 else if k < 24 then k - 6 else k
def lwL (c : Nat → ClassId) (h0 : Nat) (u : Nat → Nat) : va_W := dkL c h0 u (dkU u)
def lwA (c : Nat → ClassId) (h0 : Nat) (u : Nat → Nat) (k : Nat) : Nat := ((lwL c h0 u)[lwI k]?.map Prod.fst).getD 0
def lwC (c : Nat → ClassId) (h0 : Nat) (u : Nat → Nat) (k : Nat) : va_E := ((lwL c h0 u)[lwI k]?.map Prod.snd).getD (.inr (0, []))
abbrev lwW (D : va_G) (c : Nat → ClassId) (z : Nat) (t : Nat → Nat) (h0 : Nat) (u : Nat → Nat) : gW := (D, c, lwA c h0 u, 92, z, t)
def lwS (c : Nat → ClassId) (h0 : Nat) (u : Nat → Nat) (k : Nat) : va_E := if k = 1 then .inl (c 3, 4, .inr (.inr (.inr (.inr (fun i => some (lwA c h0 u (24 + 17 * i))))))) else lwC c h0 u k
theorem lwL_len (c : Nat → ClassId) (h0 : Nat) (u : Nat → Nat) : (lwL c h0 u).length = 92 := rfl
theorem lwI_lt {k : Nat} (h : k < 92) : lwI k < 92 := by
  unfold lwI
  split
  · omega
  · split
    · omega
    · split <;> omega
theorem lwI_inj {i j : Nat} (h : lwI i = lwI j) : i = j := by
  unfold lwI at h
  by_cases a : i = 0 <;> by_cases b : j = 0
  · omega
  all_goals (repeat' (split at h)) <;> omega
theorem lw_get {c : Nat → ClassId} {h0 : Nat} {u : Nat → Nat} {k : Nat} (h : k < 92) : (lwL c h0 u)[lwI k]? = some (lwA c h0 u k, lwC c h0 u k) := by
  have hl : lwI k < (lwL c h0 u).length := by rw [lwL_len]; exact lwI_lt h
  unfold lwA lwC
  rw [List.getElem?_eq_getElem hl]
  rfl
theorem lx_D {A : Nat → Prop} {D : va_G} {c : Nat → ClassId} {z : Nat} {t : Nat → Nat} {h0 : Nat} {u : Nat → Nat} (hA : A = fun q => z ≤ q) (hD : va_D A (lwL c h0 u)) (S : Nat → va_E) : va_D (gA (lwW D c z t h0 u)) (gws (lwW D c z t h0 u) S) := by
  have key : ∀ (k : Nat) (q : Nat × va_E), (gws (lwW D c z t h0 u) S)[k]? = some q → k < 92 ∧ q.1 = lwA c h0 u k := fun k q hk => by
    have hl : k < 92 := by
      have := (List.getElem?_eq_some_iff.mp hk).1
      rw [gws_len] at this
      exact this
    rw [gws_get (w := lwW D c z t h0 u) hl] at hk
    cases hk
    exact ⟨hl, rfl⟩
  refine ⟨fun i j p q hp hq e => ?_, fun k q hk => ?_⟩
  · obtain ⟨a1, a2⟩ := key i p hp
    obtain ⟨b1, b2⟩ := key j q hq
    exact lwI_inj (hD.1 _ _ _ _ (lw_get a1) (lw_get b1) (by show lwA c h0 u i = lwA c h0 u j; rw [← a2, ← b2]; exact e))
  · obtain ⟨a1, a2⟩ := key k q hk
    have h := hD.2 _ _ (lw_get (c := c) (h0 := h0) (u := u) a1)
    rw [hA] at h
    show z ≤ q.1
    rw [a2]
    exact h
theorem arrV_c {cA : ClassId} {n : Nat} {f g : Nat → Value} (h : ∀ j : Nat, j < n → f j = g j) : arrV cA n f = arrV cA n g := by
  unfold arrV
  rw [show (fun j : Fin n => f j.val) = (fun j : Fin n => g j.val) from funext fun j => h j.val j.isLt]
theorem lx_P {D : va_G} {c : Nat → ClassId} {z : Nat} {t : Nat → Nat} {h0 : Nat} {u : Nat → Nat} {H : Heap} (hP : va_P D vwCl (lwL c h0 u) H) : va_P D vwCl (gws (lwW D c z t h0 u) (lwS c h0 u)) H := by
  intro k q hk
  have hl : k < 92 := by
    have := (List.getElem?_eq_some_iff.mp hk).1
    rw [gws_len] at this
    exact this
  rw [gws_get (w := lwW D c z t h0 u) hl] at hk
  cases hk
  have h := hP _ _ (lw_get (c := c) (h0 := h0) (u := u) hl)
  show va_at D vwCl (lwA c h0 u k, lwS c h0 u k) H
  by_cases hk1 : k = 1
  · subst hk1
    have h2 : H[lwA c h0 u 1]? = some (arrV (c 3) 4 (fun j => va_rf (va_up (va_up (va_up (va_up (fun _ => none) 0 (some (dkU u 1 0))) 1 (some (dkU u 2 0))) 2 (some (dkU u 3 0))) 3 (some (dkU u 4 0)) j))) := h
    show H[lwA c h0 u 1]? = some (arrV (c 3) 4 (fun j => va_rf (some (lwA c h0 u (24 + 17 * j)))))
    rw [h2]
    refine congrArg some (arrV_c (fun j hj => ?_))
    match j, hj with
    | 0, _ => rfl
    | 1, _ => rfl
    | 2, _ => rfl
    | 3, _ => rfl
  · unfold lwS
    rw [if_neg hk1]
    exact h
theorem lw_desk {D : va_G} {c : Nat → ClassId} {z : Nat} {t : Nat → Nat} {h0 : Nat} {u : Nat → Nat} : deskAt (lwW D c z t h0 u) 0 0 0 z0F z0F z0F z2F D0 (fun _ => D0) (lwS c h0 u) := by
  refine ⟨⟨rfl, rfl, rfl, rfl, rfl, rfl, rfl⟩, ⟨⟨⟨rfl, rfl, rfl⟩, ⟨rfl, rfl, rfl, rfl, rfl⟩, ⟨rfl, rfl, rfl⟩⟩, ⟨⟨rfl, rfl⟩, ⟨rfl, rfl⟩, ⟨rfl, rfl⟩⟩⟩, fun i hi => ?_⟩
  match i, hi with
  | 0, _ => exact ⟨⟨⟨rfl, rfl, rfl⟩, ⟨rfl, rfl, rfl, rfl, rfl⟩, ⟨rfl, rfl, rfl⟩⟩, ⟨⟨rfl, rfl⟩, ⟨rfl, rfl⟩, ⟨rfl, rfl⟩⟩⟩
  | 1, _ => exact ⟨⟨⟨rfl, rfl, rfl⟩, ⟨rfl, rfl, rfl, rfl, rfl⟩, ⟨rfl, rfl, rfl⟩⟩, ⟨⟨rfl, rfl⟩, ⟨rfl, rfl⟩, ⟨rfl, rfl⟩⟩⟩
  | 2, _ => exact ⟨⟨⟨rfl, rfl, rfl⟩, ⟨rfl, rfl, rfl, rfl, rfl⟩, ⟨rfl, rfl, rfl⟩⟩, ⟨⟨rfl, rfl⟩, ⟨rfl, rfl⟩, ⟨rfl, rfl⟩⟩⟩
  | 3, _ => exact ⟨⟨⟨rfl, rfl, rfl⟩, ⟨rfl, rfl, rfl, rfl, rfl⟩, ⟨rfl, rfl, rfl⟩⟩, ⟨⟨rfl, rfl⟩, ⟨rfl, rfl⟩, ⟨rfl, rfl⟩⟩⟩
/-! ===== the law's first instructions: a desk is made ===== -/
set_option maxHeartbeats 4000000 in
set_option maxRecDepth 100000 in
theorem law_new {D : va_G} {c : Nat → ClassId} {X : gX} {A : Nat → Prop} {b : Nat} (hX : kOK D c room_1 X A cL_law 21 RL wsL_law) (k : ∀ (h0 : Nat) (u : Nat → Nat), kG D room_1 X A 21 8 [(1, .ref h0), (0, .ref b)] [] (lwL c h0 u) 92 9297) : kG D room_1 X A 21 0 [(0, .ref b)] [] [] 0 0 := by
  refine k_new (pc := 0) hX (ci := 6) (C := RX6) (T := TX6) (N := 8) (fun w h => inlX6 w h) rfl tyX6 tyX6_ok (List.mem_of_getElem? (i := 0) rfl) (List.mem_of_getElem? (i := 1) rfl) (List.mem_of_getElem? (i := 2) rfl) (fs := [.null, .null, vI 0, vI 0, .null, vI 0, .null, .null]) (fun j hj => by rcases (show j = 0 ∨ j = 1 ∨ j = 2 ∨ j = 3 ∨ j = 4 ∨ j = 5 ∨ j = 6 ∨ j = 7 by omega) with rfl | rfl | rfl | rfl | rfl | rfl | rfl | rfl <;> rfl) (Nat.le_of_ble_eq_true rfl) (Nat.le_of_ble_eq_true rfl) dL_law_0 (fun h0 => ?_)
  refine k_dup (pc := 3) hX rfl dL_law_3 ?_
  refine k_init (pc := 4) hX (n := 0) (b := h0) (As := []) (st2 := [.ref h0]) (wr := []) c_X6_init gL_law_X6_init rfl rfl rfl (List.mem_of_getElem? (i := 2) rfl) (List.mem_of_getElem? (i := 9) rfl) (List.mem_of_getElem? (i := 10) rfl) rfl (by decide +kernel) ⟨Nat.le_of_ble_eq_true rfl, Nat.le_of_ble_eq_true rfl⟩ rfl rfl (Nat.le_of_ble_eq_true rfl) ⟨Nat.le_of_ble_eq_true rfl, Nat.le_of_ble_eq_true rfl⟩ dL_law_4 (fun u => ?_)
  refine k_astore_n (pc := 7) hX (lv2 := [(1, .ref h0), (0, .ref b)]) rfl (by decide) rfl dL_law_7 ?_
  exact k h0 u
