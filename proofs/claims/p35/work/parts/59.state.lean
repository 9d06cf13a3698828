/-! ===== p35: a state that agrees prints the same; the scale; the typed text ===== -/
theorem hsN_c {f g : Int → Int} (h : Int) : ∀ n : Nat, (∀ i : Int, 0 ≤ i → i < n → f i = g i) → hsN f h n = hsN g h n
  | 0, _ => rfl
  | n + 1, hfg => by
    show 31 * hsN f h n + f n = 31 * hsN g h n + g n
    rw [hsN_c h n (fun i a b => hfg i a (by omega)), hfg n (by omega) (by omega)]
theorem scNum_c {F F' : Int → Int} (g : Int → Int) (h : ∀ i, 0 ≤ i → i < 8 → F' i = F i) (i : Int) : scNum F' g i = scNum F g i := by
  unfold scNum scGross scSteady scOver scRaw
  rw [h 1 (by decide) (by decide), h 2 (by decide) (by decide), h 3 (by decide) (by decide), h 4 (by decide) (by decide)]
theorem fbI_c {D D' : SD} (z h : Int) : ∀ n : Nat, (∀ i : Int, 0 ≤ i → i < n → sL D' z i = sL D z i ∧ sQ D' z i = sQ D z i) → fbI D' z h n = fbI D z h n
  | 0, _ => rfl
  | n + 1, k => by
    show 31 * (31 * fbI D' z h n + sL D' z n) + sQ D' z n = 31 * (31 * fbI D z h n + sL D z n) + sQ D z n
    rw [fbI_c z h n (fun i a b => k i a (by omega)), (k n (by omega) (by omega)).1, (k n (by omega) (by omega)).2]
theorem fbO_c {D D' : SD} (ha : agD D D') (h : Int) : ∀ n : Nat, n ≤ 4 → fbO D' h n = fbO D h n
  | 0, _ => rfl
  | n + 1, hn => by
    obtain ⟨e1, e2, e3⟩ := ha.2.2.1 n (by omega) (by omega)
    show 31 * fbI D' n (31 * fbO D' h n + sC D' n) (sC D' n).toNat + sE D' n = 31 * fbI D n (31 * fbO D h n + sC D n) (sC D n).toNat + sE D n
    rw [fbO_c ha h n (by omega), e1, e2, fbI_c _ _ _ (fun i a b => e3 i a (by omega))]
theorem opN_c {N N' : Int → Int → Int} (p : Int) : ∀ (k : Nat) (i : Int), (∀ m, i ≤ m → m < i + k → N' m = N m) → opN N' p k i = opN N p k i
  | 0, _, _ => rfl
  | k + 1, i, h => by
    show (if N' i 0 = p ∧ N' i 4 = 0 then i else opN N' p k (i + 1)) = (if N i 0 = p ∧ N i 4 = 0 then i else opN N p k (i + 1))
    rw [h i (by omega) (by omega), opN_c p k (i + 1) (fun m a b => h m (by omega) (by omega))]
theorem openZ_ag {D D' : SD} (ha : agD D D') (p : Int) : openZ D' p = openZ D p := by
  obtain ⟨-, -, -, -, -, ⟨hn, hN⟩, -⟩ := ha
  unfold openZ
  rw [hn]
  exact opN_c p _ 0 (fun m a b => hN m a (by omega))
theorem fpO_c {D D' : SD} (ha : agD D D') (h : Int) : ∀ n : Nat, (n : Int) ≤ snP D → fpO D' h n = fpO D h n
  | 0, _ => rfl
  | n + 1, hn => by
    have e : sP D' n = sP D n := ha.2.2.2.2.1.2 n (by omega) (by omega)
    have et : fpT D' n = fpT D n := by
      funext x
      unfold fpT
      rw [openZ_ag ha, e]
    show hsN (fun i => sP D' n (12 + i)) (hsN (fpT D' n) (fpO D' h n) 11) (sP D' n 11).toNat = hsN (fun i => sP D n (12 + i)) (hsN (fpT D n) (fpO D h n) 11) (sP D n 11).toNat
    rw [e, et, fpO_c ha h n (by omega)]
theorem fnO_c {D D' : SD} (ha : agD D D') (h : Int) : ∀ n : Nat, (n : Int) ≤ snN D → fnO D' h n = fnO D h n
  | 0, _ => rfl
  | n + 1, hn => by
    have e : sN D' n = sN D n := ha.2.2.2.2.2.1.2 n (by omega) (by omega)
    show hsN (fun x => sN D' n x) (fnO D' h n) 6 = hsN (fun x => sN D n x) (fnO D h n) 6
    rw [e, fnO_c ha h n (by omega)]
theorem sumZ_ag {D D' : SD} (ha : agD D D') (x : Int) : sumZ D' x = sumZ D x := by
  obtain ⟨-, -, -, -, ⟨hp, hP⟩, ⟨hn, hN⟩, -⟩ := ha
  have k : ∀ (c : Int) (r : Int), 0 ≤ r → r < snP D → tcell 30 22 (sP D') r c = tcell 30 22 (sP D) r c := fun c r a b => by
    unfold tcell
    rw [hP r a b]
  have kn : ∀ (c : Int) (r : Int), 0 ≤ r → r < snN D → tcell 20 6 (sN D') r c = tcell 20 6 (sN D) r c := fun c r a b => by
    unfold tcell
    rw [hN r a b]
  unfold sumZ
  rw [hp, hn]
  rw [zsum_c (f := fun r => tcell 30 22 (sP D') r 8) (g := fun r => tcell 30 22 (sP D) r 8) (snP D).toNat (fun r a b => k 8 r a (by omega)),
    zsum_c (f := fun r => tcell 20 6 (sN D') r 5) (g := fun r => tcell 20 6 (sN D) r 5) (snN D).toNat (fun r a b => kn 5 r a (by omega)),
    zsum_c (f := fun r => tcell 30 22 (sP D') r 0) (g := fun r => tcell 30 22 (sP D) r 0) (snP D).toNat (fun r a b => k 0 r a (by omega)),
    zsum_c (f := fun r => tcell 30 22 (sP D') r 6) (g := fun r => tcell 30 22 (sP D) r 6) (snP D).toNat (fun r a b => k 6 r a (by omega)),
    zsum_c (f := fun r => if tcell 30 22 (sP D') r 12 = 2 then 1 else 0) (g := fun r => if tcell 30 22 (sP D) r 12 = 2 then 1 else 0) (snP D).toNat (fun r a b => by
      show (if tcell 30 22 (sP D') r 12 = 2 then (1 : Int) else 0) = (if tcell 30 22 (sP D) r 12 = 2 then 1 else 0)
      rw [k 12 r a (by omega)])]
theorem fpZ_ag {D D' : SD} (h : stOK D) (ha : agD D D') : fpZ D' = fpZ D := by
  have hnP := h.2.1.1
  have hnN := h.2.2.1.1
  have e1 : hsN (sF D') 191 8 = hsN (sF D) 191 8 := hsN_c 191 8 (fun i a b => ha.1 i a (by omega))
  have e2 : scNum (sF D') (sG D') = scNum (sF D) (sG D) := by
    funext i
    rw [ha.2.1]
    exact scNum_c _ ha.1 i
  have e3 : sumZ D' = sumZ D := funext fun x => sumZ_ag ha x
  have eR : snR D' = snR D := ha.2.2.2.1.1
  have eP : snP D' = snP D := ha.2.2.2.2.1.1
  have eN : snN D' = snN D := ha.2.2.2.2.2.1.1
  unfold fpZ
  rw [e1, e2, e3, eR, eP, eN, fbO_c ha _ 4 (by decide), fpO_c ha _ (snP D).toNat (by omega), fnO_c ha _ (snN D).toNat (by omega)]
/-! the scale -/
def sizeZ (x : Int) : Int := if x < 0 then -x else x
theorem gro_v {F g : Int → Int} (hF : scF F) (hg : scG g) : (scGross F g).tmod (F 2) = 0 ∧ 2 * sizeZ (scGross F g - (scRaw F g - g 2)) ≤ F 2 ∧ 2 * ((scRaw F g - g 2) - scGross F g) ≠ F 2 := by
  have h := scGross_b hF hg
  refine ⟨?_, ?_, by omega⟩
  · unfold scGross
    exact Int.mul_tmod_left _ _
  · unfold sizeZ
    split <;> omega
theorem pass_v (F g : Int → Int) : scPass F g 0 = g 0 ∧ scPass F g 1 = g 1 + 1 ∧ scPass F g 4 = g 4 + F 0 ∧ scPass F g 6 = (if 3 < g 6 + 1 then 3 else g 6 + 1) ∧ scPass F g 7 = g 0 * (1000 + F 1) / 1000 + (g 4 + F 0) ∧ scPass F g 8 = g 7 ∧ scPass F g 9 = g 8 := by
  unfold scPass
  obtain ⟨G, eG⟩ : ∃ G, G = scPut (scStep F g) (scRaw F (scStep F g)) := ⟨_, rfl⟩
  have hT : ∀ j, j ≠ 2 → j ≠ 5 → scTrack F G j = G j := fun j h2 h5 => by
    unfold scTrack
    split
    · rw [updZ_ne _ _ h5, updZ_ne _ _ h2]
    · rw [updZ_ne _ _ h5]
  rw [← eG, hT 0 (by decide) (by decide), hT 1 (by decide) (by decide), hT 4 (by decide) (by decide), hT 6 (by decide) (by decide), hT 7 (by decide) (by decide), hT 8 (by decide) (by decide), hT 9 (by decide) (by decide), eG]
  exact ⟨rfl, rfl, rfl, rfl, rfl, rfl, rfl⟩
theorem tick3 (F g : Int → Int) (x : Int) : tkN F (scLoad g x) 3 0 = x ∧ tkN F (scLoad g x) 3 1 = g 1 + 3 ∧ scSteady F (tkN F (scLoad g x) 3) = decide (2 * sizeZ (F 0) ≤ F 4) := by
  obtain ⟨G, eG⟩ : ∃ G, G = scLoad g x := ⟨_, rfl⟩
  have g0 : G 0 = x := by rw [eG]; rfl
  have g1 : G 1 = g 1 := by rw [eG]; rfl
  have g6 : G 6 = 0 := by rw [eG]; rfl
  obtain ⟨a0, a1, a4, a6, a7, a8, a9⟩ := pass_v F G
  obtain ⟨b0, b1, b4, b6, b7, b8, b9⟩ := pass_v F (scPass F G)
  obtain ⟨c0, c1, c4, c6, c7, c8, c9⟩ := pass_v F (scPass F (scPass F G))
  rw [← eG]
  have e : tkN F G 3 = scPass F (scPass F (scPass F G)) := rfl
  rw [e]
  refine ⟨by rw [c0, b0, a0, g0], by rw [c1, b1, a1, g1]; omega, ?_⟩
  have d6 : scPass F (scPass F (scPass F G)) 6 = 3 := by
    rw [g6] at a6
    rw [a6] at b6
    rw [b6] at c6
    rw [c6]
    rfl
  have d7 : scPass F (scPass F (scPass F G)) 7 = x * (1000 + F 1) / 1000 + (G 4 + F 0 + F 0 + F 0) := by rw [c7, b0, a0, g0, b4, a4]
  have d8 : scPass F (scPass F (scPass F G)) 8 = x * (1000 + F 1) / 1000 + (G 4 + F 0 + F 0) := by rw [c8, b7, a0, g0, a4]
  have d9 : scPass F (scPass F (scPass F G)) 9 = x * (1000 + F 1) / 1000 + (G 4 + F 0) := by rw [c9, b8, a7, g0]
  unfold scSteady
  rw [d6, d7, d8, d9]
  generalize x * (1000 + F 1) / 1000 = y
  refine decide_eq_decide.mpr ?_
  unfold mx mn sizeZ
  constructor
  · rintro ⟨-, h⟩
    (repeat' split at h) <;> (split <;> omega)
  · intro h
    refine ⟨by decide, ?_⟩
    (repeat' split) <;> (split at h <;> omega)
/-! the typed text -/
theorem rdGo_cong {B B' : Int → Int} : ∀ (k : Nat) (i : Int) (s : rdS), (∀ j, i ≤ j → j < i + k → B' j = B j) → rdGo B' k i s = rdGo B k i s
  | 0, _, _, _ => rfl
  | k + 1, i, s, h => by
    show (if (rdAll (B' i) s).1 = true then rdGo B' k (i + 1) (rdAll (B' i) s).2 else (i, (rdAll (B' i) s).2)) = (if (rdAll (B i) s).1 = true then rdGo B k (i + 1) (rdAll (B i) s).2 else (i, (rdAll (B i) s).2))
    rw [h i (by omega) (by omega), rdGo_cong k (i + 1) _ (fun j a b => h j (by omega) (by omega))]
theorem rdGo_app (B : Int → Int) : ∀ (k : Nat) (i : Int) (s : rdS), (rdGo B k i s).1 = i + k → rdGo B (k + 1) i s = if (rdAll (B (i + k)) (rdGo B k i s).2).1 = true then (i + k + 1, (rdAll (B (i + k)) (rdGo B k i s).2).2) else (i + k, (rdAll (B (i + k)) (rdGo B k i s).2).2)
  | 0, i, s, _ => by
    rw [show i + ((0 : Nat) : Int) = i by omega]
    rfl
  | k + 1, i, s, h => by
    by_cases c : (rdAll (B i) s).1 = true
    · have e : ∀ m : Nat, rdGo B (m + 1) i s = rdGo B m (i + 1) (rdAll (B i) s).2 := fun m => if_pos c
      rw [e k] at h
      rw [e (k + 1), e k, rdGo_app B k (i + 1) _ (by rw [h]; omega), show i + 1 + (k : Int) = i + ((k + 1 : Nat) : Int) by omega]
    · have e : rdGo B (k + 1) i s = (i, (rdAll (B i) s).2) := if_neg c
      rw [e] at h
      have h : i = i + ((k + 1 : Nat) : Int) := h
      omega
def bufAt (B : Int → Int) (ty pl dg : Int) : Prop := ∀ ρ T : Int → Int, (rdZ B ty ρ T).1 = ty ∧ (rdZ B ty ρ T).2.1 4 = pl ∧ (rdZ B ty ρ T).2.1 5 = 0 ∧ (pl = 2 ∨ pl = 5 → (rdZ B ty ρ T).2.1 3 = dg)
theorem buf_0 (B : Int → Int) : bufAt B 0 0 0 := fun ρ T => ⟨rfl, rfl, rfl, fun h => absurd h (by decide)⟩
def stp (pl dg c pl2 dg2 : Int) : Prop := ∀ s : rdS, s.1 4 = pl → s.1 5 = 0 → (pl = 2 ∨ pl = 5 → s.1 3 = dg) → (rdAll c s).1 = true ∧ (rdAll c s).2.1 4 = pl2 ∧ (rdAll c s).2.1 5 = 0 ∧ (pl2 = 2 ∨ pl2 = 5 → (rdAll c s).2.1 3 = dg2)
theorem buf_step {B : Int → Int} {ty pl dg c pl2 dg2 : Int} (h : bufAt B ty pl dg) (h0 : 0 ≤ ty) (hs : stp pl dg c pl2 dg2) : bufAt (updZ B ty c) (ty + 1) pl2 dg2 := by
  intro ρ T
  obtain ⟨a, b, d, e⟩ := h ρ T
  unfold rdZ at a b d e ⊢
  have hc : rdGo (updZ B ty c) ty.toNat 0 (rdStart ρ, T) = rdGo B ty.toNat 0 (rdStart ρ, T) := rdGo_cong _ _ _ (fun j j0 j1 => updZ_ne _ _ (by omega))
  have ha := rdGo_app (updZ B ty c) ty.toNat 0 (rdStart ρ, T) (by rw [hc, a]; omega)
  rw [hc, show (0 : Int) + (ty.toNat : Int) = ty by omega, updZ_eq] at ha
  obtain ⟨q1, q2, q3, q4⟩ := hs _ b d e
  rw [if_pos q1] at ha
  rw [show (ty + 1).toNat = ty.toNat + 1 by omega, ha]
  exact ⟨rfl, q2, q3, q4⟩
theorem tokS_v (t : Int) (s : rdS) : ∀ j, j ≠ 0 → (tokS t s).1 j = s.1 j := fun j hj => by
  unfold tokS
  split
  · exact updZ_ne _ _ hj
  · rfl
theorem stp_not (d d2 : Int) : stp 0 d 126 0 d2 := fun s h4 h5 _ => by
  have e : rdAll 126 s = (true, tokS (-126) (updZ s.1 5 (s.1 5 + 0), s.2)) := by unfold rdAll; rw [if_pos h4]; rfl
  rw [e]
  refine ⟨rfl, ?_, ?_, fun h => absurd h (by decide)⟩
  · rw [tokS_v _ _ 4 (by decide)]; exact h4
  · rw [tokS_v _ _ 5 (by decide)]
    show s.1 5 + 0 = 0
    omega
theorem stp_let {c : Int} (hc : 0 ≤ letZ c) (h1 : c ≠ 126) (h2 : c ≠ 40) (d d2 : Int) : stp 0 d c 1 d2 := fun s h4 h5 _ => by
  have e : rdAll c s = (decide (0 ≤ letZ c), (updZ (updZ s.1 6 (letZ c)) 4 1, s.2)) := by unfold rdAll rdTerm; rw [if_pos h4, if_neg h1, if_neg h2]
  rw [e]
  exact ⟨decide_eq_true hc, rfl, h5, fun h => absurd h (by decide)⟩
theorem stp_rel {c : Int} (hc : 0 ≤ relZ c) (d : Int) : stp 1 d c 2 0 := fun s h4 h5 _ => by
  have e : rdAll c s = (decide (0 ≤ relZ c), (numR (updZ s.1 7 (relZ c)) 2, s.2)) := by unfold rdAll rdRel; rw [if_neg (by rw [h4]; decide), if_pos h4]
  rw [e]
  exact ⟨decide_eq_true hc, rfl, h5, fun _ => rfl⟩
theorem stp_dig {c d : Int} (h0 : 48 ≤ c) (h1 : c ≤ 57) (hd : d < 5) : stp 2 d c 2 (d + 1) := fun s h4 h5 h3 => by
  have h3 := h3 (Or.inl rfl)
  have e2 : rdDig c s = (true, (updZ (updZ s.1 2 (s.1 2 * 10 + c - 48)) 3 (s.1 3 + 1), s.2)) := if_pos ⟨h0, h1, by omega⟩
  have e : rdAll c s = rdDig c s := by unfold rdAll; rw [if_neg (by rw [h4]; decide), if_neg (by rw [h4]; decide), if_pos h4, if_pos (by rw [e2])]
  rw [e, e2]
  exact ⟨rfl, h4, h5, fun _ => by show s.1 3 + 1 = d + 1; rw [h3]⟩
theorem stp_dig5 {c d : Int} (h0 : 48 ≤ c) (h1 : c ≤ 57) (hd : d < 5) : stp 5 d c 5 (d + 1) := fun s h4 h5 h3 => by
  have h3 := h3 (Or.inr rfl)
  have e2 : rdDig c s = (true, (updZ (updZ s.1 2 (s.1 2 * 10 + c - 48)) 3 (s.1 3 + 1), s.2)) := if_pos ⟨h0, h1, by omega⟩
  have e : rdAll c s = rdDig c s := by unfold rdAll; rw [if_neg (by rw [h4]; decide), if_neg (by rw [h4]; decide), if_neg (by rw [h4]; decide), if_neg (by rw [h4]; decide), if_neg (by rw [h4]; decide)]
  rw [e, e2]
  exact ⟨rfl, h4, h5, fun _ => by show s.1 3 + 1 = d + 1; rw [h3]⟩
theorem stp_2 {c d : Int} (hd : 1 ≤ d) (hc : ¬ (48 ≤ c ∧ c ≤ 57)) (s : rdS) (h4 : s.1 4 = 2) (h3 : s.1 3 = d) : rdAll c s = rdLink c (tokS ((s.1 6 * 3 + s.1 7) * 100000 + s.1 2) s) := by
  have e2 : rdDig c s = (false, s) := if_neg (fun q => hc ⟨q.1, q.2.1⟩)
  unfold rdAll rdLBN
  rw [if_neg (by rw [h4]; decide), if_neg (by rw [h4]; decide), if_pos h4, if_neg (by rw [e2]; exact Bool.false_ne_true), if_neg (by omega)]
theorem stp_link {c d : Int} (hd : 1 ≤ d) (hc : c = 38 ∨ c = 124) (d2 : Int) : stp 2 d c 0 d2 := fun s h4 h5 h3 => by
  rw [stp_2 hd (by omega) s h4 (h3 (Or.inl rfl))]
  obtain ⟨q, eq⟩ : ∃ q, q = tokS ((s.1 6 * 3 + s.1 7) * 100000 + s.1 2) s := ⟨_, rfl⟩
  have q5 : q.1 5 = 0 := by rw [eq, tokS_v _ _ 5 (by decide)]; exact h5
  rw [← eq]
  unfold rdLink
  rw [if_neg (by omega), if_neg (by omega), if_pos hc]
  refine ⟨rfl, ?_, ?_, fun h => absurd h (by decide)⟩
  · rw [tokS_v _ _ 4 (by decide)]; rfl
  · rw [tokS_v _ _ 5 (by decide)]; exact q5
theorem stp_q {d : Int} (hd : 1 ≤ d) (d2 : Int) : stp 2 d 63 4 d2 := fun s h4 h5 h3 => by
  rw [stp_2 hd (by omega) s h4 (h3 (Or.inl rfl))]
  obtain ⟨q, eq⟩ : ∃ q, q = tokS ((s.1 6 * 3 + s.1 7) * 100000 + s.1 2) s := ⟨_, rfl⟩
  have q5 : q.1 5 = 0 := by rw [eq, tokS_v _ _ 5 (by decide)]; exact h5
  rw [← eq]
  unfold rdLink
  rw [if_pos ⟨rfl, q5⟩]
  exact ⟨rfl, rfl, q5, fun h => absurd h (by decide)⟩
theorem stp_chg {c : Int} (hc : c = 43 ∨ c = 45 ∨ c = 42) (d : Int) : stp 4 d c 5 0 := fun s h4 h5 _ => by
  have e : rdAll c s = (decide (c = 43 ∨ c = 45 ∨ c = 42), (numR (updZ s.1 1 c) 5, s.2)) := by unfold rdAll rdChg; rw [if_neg (by rw [h4]; decide), if_neg (by rw [h4]; decide), if_neg (by rw [h4]; decide), if_neg (by rw [h4]; decide), if_pos h4]
  rw [e]
  exact ⟨decide_eq_true hc, rfl, h5, fun _ => rfl⟩
