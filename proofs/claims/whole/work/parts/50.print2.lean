/-! ===== the reference: its fingerprint ===== -/
def bcN (h : Int) : Nat → Int → Int
  | 0, _ => 0
  | n + 1, k => (if h / ((2 ^ k.toNat : Nat) : Int) % 2 = 1 then 1 else 0) + bcN h n (k + 1)
theorem bcN_b (h : Int) : ∀ (n : Nat) (k : Int), 0 ≤ bcN h n k ∧ bcN h n k ≤ n
  | 0, _ => ⟨Int.le_refl 0, Int.le_refl 0⟩
  | n + 1, k => by
    have a := bcN_b h n (k + 1)
    show 0 ≤ (if h / ((2 ^ k.toNat : Nat) : Int) % 2 = 1 then 1 else 0) + bcN h n (k + 1) ∧ (if h / ((2 ^ k.toNat : Nat) : Int) % 2 = 1 then 1 else 0) + bcN h n (k + 1) ≤ ((n + 1 : Nat) : Int)
    split <;> omega
theorem rgo_c (h : Int) : ∀ (n : Nat) (k l : Int), 0 ≤ k → 0 ≤ l → (l < bcN h n k → 30 ≤ rgo h n k l ∧ rgo h n k l ≤ 30 + k + n) ∧ (bcN h n k ≤ l → rgo h n k l = -1000009)
  | 0, k, l, _, hl => ⟨fun a => absurd a (by show ¬ l < 0; omega), fun _ => rfl⟩
  | n + 1, k, l, hk, hl => by
    have hb := bcN_b h n (k + 1)
    by_cases c : h / ((2 ^ k.toNat : Nat) : Int) % 2 = 1
    · have e1 : bcN h (n + 1) k = 1 + bcN h n (k + 1) := by
        show (if h / ((2 ^ k.toNat : Nat) : Int) % 2 = 1 then 1 else 0) + bcN h n (k + 1) = _
        rw [if_pos c]
      by_cases c2 : l = 0
      · have e2 : rgo h (n + 1) k l = 30 + k := by
          show (if h / ((2 ^ k.toNat : Nat) : Int) % 2 = 1 then (if l = 0 then 30 + k else rgo h n (k + 1) (l - 1)) else rgo h n (k + 1) l) = _
          rw [if_pos c, if_pos c2]
        rw [e1, e2]
        exact ⟨fun _ => by omega, fun a => absurd a (by omega)⟩
      · have e2 : rgo h (n + 1) k l = rgo h n (k + 1) (l - 1) := by
          show (if h / ((2 ^ k.toNat : Nat) : Int) % 2 = 1 then (if l = 0 then 30 + k else rgo h n (k + 1) (l - 1)) else rgo h n (k + 1) l) = _
          rw [if_pos c, if_neg c2]
        have ih := rgo_c h n (k + 1) (l - 1) (by omega) (by omega)
        rw [e1, e2]
        exact ⟨fun a => by have := ih.1 (by omega); omega, fun a => ih.2 (by omega)⟩
    · have e1 : bcN h (n + 1) k = bcN h n (k + 1) := by
        show (if h / ((2 ^ k.toNat : Nat) : Int) % 2 = 1 then 1 else 0) + bcN h n (k + 1) = _
        rw [if_neg c, Int.zero_add]
      have e2 : rgo h (n + 1) k l = rgo h n (k + 1) l := by
        show (if h / ((2 ^ k.toNat : Nat) : Int) % 2 = 1 then (if l = 0 then 30 + k else rgo h n (k + 1) (l - 1)) else rgo h n (k + 1) l) = _
        rw [if_neg c]
      have ih := rgo_c h n (k + 1) l (by omega) hl
      rw [e1, e2]
      exact ⟨fun a => by have := ih.1 a; omega, ih.2⟩
def rcV (V : Int → Int) (p : Int) : Int := 2 + bcN (V (570 + 12 * p + 11)) 8 0
def wyV (V : Int → Int) (p : Int) : Prop := (1 ≤ V (570 + 12 * p + 9) ∧ V (570 + 12 * p + 9) ≤ 3) ∧ (10 ≤ V (570 + 12 * p + 10) ∧ V (570 + 12 * p + 10) ≤ 20) ∧ (0 ≤ V (570 + 12 * p + 11) ∧ V (570 + 12 * p + 11) ≤ 255)
theorem rcV_b (V : Int → Int) (p : Int) : 2 ≤ rcV V p ∧ rcV V p ≤ 10 := by
  have := bcN_b (V (570 + 12 * p + 11)) 8 0
  unfold rcV
  omega
theorem rsV_c {V : Int → Int} {p i : Int} (hw : wyV V p) (h0 : 0 ≤ i) : (i < rcV V p → 1 ≤ rsV V p i ∧ rsV V p i ≤ 40) ∧ (rcV V p ≤ i → rsV V p i = -1000009) := by
  obtain ⟨w9, w10, -⟩ := hw
  have hb := bcN_b (V (570 + 12 * p + 11)) 8 0
  unfold rsV rcV
  by_cases h2 : i < 2
  · rw [if_pos h2]
    refine ⟨fun _ => ?_, fun a => absurd a (by omega)⟩
    rcases (show i = 0 ∨ i = 1 by omega) with h | h <;> subst h
    · exact ⟨w9.1, by have := w9.2; show V (570 + 12 * p + 9) ≤ 40; omega⟩
    · exact ⟨by have := w10.1; show 1 ≤ V (570 + 12 * p + 10); omega, by have := w10.2; show V (570 + 12 * p + 10) ≤ 40; omega⟩
  · rw [if_neg h2]
    have hr := rgo_c (V (570 + 12 * p + 11)) 8 0 (i - 2) (by decide) (by omega)
    exact ⟨fun a => by have := hr.1 (by omega); omega, fun a => hr.2 (by omega)⟩
theorem rsV_in {V : Int → Int} {p i : Int} (hw : wyV V p) (h0 : 0 ≤ i) : inI (rsV V p i) := by
  have h := rsV_c hw h0
  by_cases c : i < rcV V p
  · have := h.1 c; exact ⟨by omega, by omega⟩
  · rw [h.2 (by omega)]; exact ⟨by decide, by decide⟩
def fbM (V : Int → Int) (h : Int) : Nat → Int
  | 0 => h
  | n + 1 => 31 * (hsN (fun k => V (24 + 14 * n + 2 + 2 * 0 + k)) (31 * fbM V h n + V (24 + 14 * n)) (2 * V (24 + 14 * n)).toNat) + V (24 + 14 * n + 1)
theorem fbM_s (V : Int → Int) (h : Int) {c : Int} (hc : 0 ≤ c) : fbM V h (c + 1).toNat = 31 * (hsN (fun k => V (24 + 14 * c + 2 + 2 * 0 + k)) (31 * fbM V h c.toNat + V (24 + 14 * c)) (2 * V (24 + 14 * c)).toNat) + V (24 + 14 * c + 1) := by
  rw [show (c + 1).toNat = c.toNat + 1 by omega]
  show 31 * (hsN (fun k => V (24 + 14 * (c.toNat : Int) + 2 + 2 * 0 + k)) (31 * fbM V h c.toNat + V (24 + 14 * (c.toNat : Int))) (2 * V (24 + 14 * (c.toNat : Int))).toNat) + V (24 + 14 * (c.toNat : Int) + 1) = _
  rw [show ((c.toNat : Nat) : Int) = c by omega]
def fpM (V : Int → Int) (h : Int) : Nat → Int
  | 0 => h
  | n + 1 => hsN (rsV V n) (hsN (toldV V n) (fpM V h n) (11 : Int).toNat) (rcV V n).toNat
theorem fpM_s (V : Int → Int) (h : Int) {c : Int} (hc : 0 ≤ c) : fpM V h (c + 1).toNat = hsN (rsV V c) (hsN (toldV V c) (fpM V h c.toNat) (11 : Int).toNat) (rcV V c).toNat := by
  rw [show (c + 1).toNat = c.toNat + 1 by omega]
  show hsN (rsV V (c.toNat : Int)) (hsN (toldV V (c.toNat : Int)) (fpM V h c.toNat) (11 : Int).toNat) (rcV V (c.toNat : Int)).toNat = _
  rw [show ((c.toNat : Nat) : Int) = c by omega]
def fnM (V : Int → Int) (h : Int) : Nat → Int
  | 0 => h
  | n + 1 => hsN (fun x => V (940 + 12 * n + x)) (fnM V h n) (6 : Int).toNat
theorem fnM_s (V : Int → Int) (h : Int) {c : Int} (hc : 0 ≤ c) : fnM V h (c + 1).toNat = hsN (fun x => V (940 + 12 * c + x)) (fnM V h c.toNat) (6 : Int).toNat := by
  rw [show (c + 1).toNat = c.toNat + 1 by omega]
  show hsN (fun x => V (940 + 12 * (c.toNat : Int) + x)) (fnM V h c.toNat) (6 : Int).toNat = _
  rw [show ((c.toNat : Nat) : Int) = c by omega]
def mfpZ (V : Int → Int) : Int := hsN (smV V) (fnM V (31 * (fpM V (31 * (31 * (fbM V (hsN (scnV V) (hsN V 191 (8 : Int).toNat) (11 : Int).toNat) (4 : Int).toNat) + V 18) + V 19) (V 19).toNat) + V 20) (V 20).toNat) (5 : Int).toNat

set_option maxHeartbeats 4000000 in
set_option maxRecDepth 100000 in
theorem c_X7_fingerprint {w : gW} {l : Launch} {S : Nat → va_E} {pm tm xm at_ wm wh : Int} {ir : Bool} {V PV TY TX MK MM CH AM WT WK FL PI : Int → Int} (hN : gw_N w = 105) (hm : modelAt w pm tm xm at_ wm wh ir V PV TY TX MK MM CH AM WT WK FL PI S) (hB : vBnd V) (hL : vLim V) (hv : mOK V) (h19 : 0 ≤ V 19 ∧ V 19 ≤ 30) (h20 : 0 ≤ V 20 ∧ V 20 ≤ 20) (hsp : ∀ p, 0 ≤ p → p < V 19 → sdV V p) (hsr : ∀ p, 0 ≤ p → p < V 19 → wyV V p) :
    GM1 w l yX7_fingerprint wsX7_fingerprint { frames := 4, cells := 0, slots := 0, locals := 86 } [.ref (gw_ad w 92)] S
      (fun v S' => v = vL (mfpZ V) ∧ S' = S) := by
  refine GM.start (own := RX7) (n := "fingerprint") (d := "()J") (by decide) rfl (Nat.le_of_ble_eq_true rfl) ?_
  intro X hX hR hXl
  subst hXl
  refine g_at rfl (lv2 := [(0, .ref (gw_ad w 92))]) rfl rfl rfl ?_
  obtain ⟨⟨m92, m93, m94⟩, ⟨m95, m96⟩, ⟨m97, m98, m99, m100, m101⟩, ⟨m102, m103, m104⟩⟩ := (id hm)
  have hr := hv.r
  have hrm := rawV_m hr
  have hrb := rawV_b hr
  obtain ⟨⟨⟨⟨f0a, f0b⟩, ⟨f1a, f1b⟩, ⟨f2a, f2b⟩, ⟨f3a, f3b⟩⟩, ⟨⟨f4a, f4b⟩, ⟨f5a, f5b⟩, ⟨f6a, f6b⟩, ⟨f7a, f7b⟩⟩⟩, ⟨⟨a8a, a8b⟩, ⟨a9a, a9b⟩, ⟨a10a, a10b⟩, ⟨a11a, a11b⟩, ⟨a12a, a12b⟩, ⟨a13a, a13b⟩⟩, ⟨⟨a14a, a14b⟩, ⟨a15a, a15b⟩, ⟨a16a, a16b⟩, ⟨a17a, a17b⟩⟩⟩ := id hv
  refine g_ldc2 (pc := 0) hX (z := 191) (List.mem_of_getElem? (i := 1) rfl) (by decide +kernel) dX7_fingerprint_0 ?_
  refine g_lstore_n (pc := 3) hX (lv2 := [(1, vL (191)), (0, .ref (gw_ad w 92))]) rfl (by decide) rfl dX7_fingerprint_3 ?_
  refine g_iconst (pc := 4) hX dX7_fingerprint_4 ?_
  refine g_istore_n (pc := 5) hX (lv2 := [(3, vI (0)), (1, vL (191)), (0, .ref (gw_ad w 92))]) rfl (by decide) rfl dX7_fingerprint_5 ?_
  have lk1 : ∀ (n0 : Nat) (k1 : Int), 0 ≤ k1 → k1 ≤ 8 → 8 - k1 < n0 → G w { frames := 4, cells := 0, slots := 0, locals := 86 } X 5 6 [(3, vI (k1)), (0, .ref (gw_ad w 92)), (1, vL (hsN V 191 (k1 : Int).toNat))] [] S := by
    intro n0
    induction n0 with
    | zero => intro k1  h1k1 h2k1 h3k1; exact absurd h3k1 (by omega)
    | succ n0 ihlk1 =>
      intro k1  h1k1 h2k1 h3k1 
      have hk1I : inI k1 := inI_mk (by omega) (by omega)
      refine g_iload_n (pc := 6) hX 0 rfl dX7_fingerprint_6 ?_
      refine g_bipush (pc := 7) hX (by decide) dX7_fingerprint_7 ?_
      refine g_icmp_ge (pc := 9) (tgt := 31) hX (by first | assumption | exact inI_mk (by omega) (by omega)) (by first | assumption | exact inI_mk (by omega) (by omega)) dX7_fingerprint_9 (by decide) (fun c_9 => ?_) (fun c_9 => ?_)
      · skip
        refine g_iconst (pc := 31) hX dX7_fingerprint_31 ?_
        refine g_istore_n (pc := 32) hX (lv2 := [(3, vI (0)), (0, .ref (gw_ad w 92)), (1, vL (hsN V 191 (k1 : Int).toNat))]) rfl (by decide) rfl dX7_fingerprint_32 ?_
        have lk2 : ∀ (n0 : Nat) (k2 : Int), 0 ≤ k2 → k2 ≤ 11 → 11 - k2 < n0 → G w { frames := 4, cells := 0, slots := 0, locals := 86 } X 5 33 [(3, vI (k2)), (0, .ref (gw_ad w 92)), (1, vL (hsN (scnV V) (hsN V 191 (k1 : Int).toNat) (k2 : Int).toNat))] [] S := by
          intro n0
          induction n0 with
          | zero => intro k2  h1k2 h2k2 h3k2; exact absurd h3k2 (by omega)
          | succ n0 ihlk2 =>
            intro k2  h1k2 h2k2 h3k2 
            have hk2I : inI k2 := inI_mk (by omega) (by omega)
            refine g_iload_n (pc := 33) hX 0 rfl dX7_fingerprint_33 ?_
            refine g_bipush (pc := 34) hX (by decide) dX7_fingerprint_34 ?_
            refine g_icmp_ge (pc := 36) (tgt := 57) hX (by first | assumption | exact inI_mk (by omega) (by omega)) (by first | assumption | exact inI_mk (by omega) (by omega)) dX7_fingerprint_36 (by decide) (fun c_36 => ?_) (fun c_36 => ?_)
            · skip
              refine g_iconst (pc := 57) hX dX7_fingerprint_57 ?_
              refine g_istore_n (pc := 58) hX (lv2 := [(3, vI (0)), (0, .ref (gw_ad w 92)), (1, vL (hsN (scnV V) (hsN V 191 (k1 : Int).toNat) (k2 : Int).toNat))]) rfl (by decide) rfl dX7_fingerprint_58 ?_
              have lz : ∀ (n0 : Nat) (z : Int), 0 ≤ z → z ≤ 4 → 4 - z < n0 → G w { frames := 4, cells := 0, slots := 0, locals := 86 } X 5 59 [(3, vI (z)), (0, .ref (gw_ad w 92)), (1, vL (fbM V (hsN (scnV V) (hsN V 191 (k1 : Int).toNat) (k2 : Int).toNat) (z : Int).toNat))] [] S := by
                intro n0
                induction n0 with
                | zero => intro z  h1z h2z h3z; exact absurd h3z (by omega)
                | succ n0 ihlz =>
                  intro z  h1z h2z h3z 
                  have hzI : inI z := inI_mk (by omega) (by omega)
                  refine g_iload_n (pc := 59) hX 0 rfl dX7_fingerprint_59 ?_
                  refine g_iconst (pc := 60) hX dX7_fingerprint_60 ?_
                  refine g_icmp_ge (pc := 61) (tgt := 145) hX (by first | assumption | exact inI_mk (by omega) (by omega)) (by first | assumption | exact inI_mk (by omega) (by omega)) dX7_fingerprint_61 (by decide) (fun c_61 => ?_) (fun c_61 => ?_)
                  · skip
                    refine g_ldc2 (pc := 145) hX (z := 31) (List.mem_of_getElem? (i := 2) rfl) (by decide +kernel) dX7_fingerprint_145 ?_
                    refine g_ldc2 (pc := 148) hX (z := 31) (List.mem_of_getElem? (i := 2) rfl) (by decide +kernel) dX7_fingerprint_148 ?_
                    refine g_lload_n (pc := 151) hX 2 rfl dX7_fingerprint_151 ?_
                    refine g_lmul (pc := 152) hX dX7_fingerprint_152 ?_
                    refine g_aload_n (pc := 153) hX 1 rfl dX7_fingerprint_153 ?_
                    refine g_get (pc := 154) hX (ci := 7) (fun _ h => List.mem_cons_of_mem _ (List.mem_append_right _ h)) rfl 92 (by omega) m92 0 (by decide) (List.mem_of_getElem? (i := 3) rfl) rfl (v := .ref (gw_ad w 93)) rfl dX7_fingerprint_154 ?_
                    refine g_bipush (pc := 157) hX (by decide) dX7_fingerprint_157 ?_
                    refine g_lald (pc := 159) hX 93 (by omega) m93 (by omega) (by omega) (by decide) dX7_fingerprint_159 ?_
                    refine g_ladd (pc := 160) hX dX7_fingerprint_160 ?_
                    refine g_lmul (pc := 161) hX dX7_fingerprint_161 ?_
                    refine g_aload_n (pc := 162) hX 1 rfl dX7_fingerprint_162 ?_
                    refine g_get (pc := 163) hX (ci := 7) (fun _ h => List.mem_cons_of_mem _ (List.mem_append_right _ h)) rfl 92 (by omega) m92 0 (by decide) (List.mem_of_getElem? (i := 3) rfl) rfl (v := .ref (gw_ad w 93)) rfl dX7_fingerprint_163 ?_
                    refine g_bipush (pc := 166) hX (by decide) dX7_fingerprint_166 ?_
                    refine g_lald (pc := 168) hX 93 (by omega) m93 (by omega) (by omega) (by decide) dX7_fingerprint_168 ?_
                    refine g_ladd (pc := 169) hX dX7_fingerprint_169 ?_
                    refine g_lstore_n (pc := 170) hX (lv2 := [(1, vL ((31 * ((31 * (fbM V (hsN (scnV V) (hsN V 191 (k1 : Int).toNat) (k2 : Int).toNat) (z : Int).toNat)) + (V 18))) + (V 19))), (3, vI (z)), (0, .ref (gw_ad w 92))]) rfl (by decide) rfl dX7_fingerprint_170 ?_
                    refine g_iconst (pc := 171) hX dX7_fingerprint_171 ?_
                    refine g_istore_n (pc := 172) hX (lv2 := [(3, vI (0)), (1, vL ((31 * ((31 * (fbM V (hsN (scnV V) (hsN V 191 (k1 : Int).toNat) (k2 : Int).toNat) (z : Int).toNat)) + (V 18))) + (V 19))), (0, .ref (gw_ad w 92))]) rfl (by decide) rfl dX7_fingerprint_172 ?_
                    have lp : ∀ (n0 : Nat) (p : Int), 0 ≤ p → p ≤ V 19 → V 19 - p < n0 → G w { frames := 4, cells := 0, slots := 0, locals := 86 } X 5 173 [(3, vI (p)), (0, .ref (gw_ad w 92)), (1, vL (fpM V (31 * (31 * (fbM V (hsN (scnV V) (hsN V 191 (k1 : Int).toNat) (k2 : Int).toNat) (z : Int).toNat) + V 18) + V 19) (p : Int).toNat))] [] S := by
                      intro n0
                      induction n0 with
                      | zero => intro p  h1p h2p h3p; exact absurd h3p (by omega)
                      | succ n0 ihlp =>
                        intro p  h1p h2p h3p 
                        have hpI : inI p := inI_mk (by omega) (by omega)
                        refine g_iload_n (pc := 173) hX 0 rfl dX7_fingerprint_173 ?_
                        refine g_i2l (pc := 174) hX (by first | assumption | exact inI_mk (by omega) (by omega)) dX7_fingerprint_174 ?_
                        refine g_aload_n (pc := 175) hX 1 rfl dX7_fingerprint_175 ?_
                        refine g_get (pc := 176) hX (ci := 7) (fun _ h => List.mem_cons_of_mem _ (List.mem_append_right _ h)) rfl 92 (by omega) m92 0 (by decide) (List.mem_of_getElem? (i := 3) rfl) rfl (v := .ref (gw_ad w 93)) rfl dX7_fingerprint_176 ?_
                        refine g_bipush (pc := 179) hX (by decide) dX7_fingerprint_179 ?_
                        refine g_lald (pc := 181) hX 93 (by omega) m93 (by omega) (by omega) (by decide) dX7_fingerprint_181 ?_
                        refine g_lcmp_ge (pc := 182) (tgt := 258) hX (by first | assumption | exact inI_L (by assumption) | exact inL_mk (by omega) (by omega)) (by first | assumption | exact inI_L (by assumption) | exact inL_mk (by omega) (by omega)) dX7_fingerprint_182 dX7_fingerprint_183 (by decide) (fun c_182 => ?_) (fun c_182 => ?_)
                        · skip
                          refine g_ldc2 (pc := 258) hX (z := 31) (List.mem_of_getElem? (i := 2) rfl) (by decide +kernel) dX7_fingerprint_258 ?_
                          refine g_lload_n (pc := 261) hX 2 rfl dX7_fingerprint_261 ?_
                          refine g_lmul (pc := 262) hX dX7_fingerprint_262 ?_
                          refine g_aload_n (pc := 263) hX 1 rfl dX7_fingerprint_263 ?_
                          refine g_get (pc := 264) hX (ci := 7) (fun _ h => List.mem_cons_of_mem _ (List.mem_append_right _ h)) rfl 92 (by omega) m92 0 (by decide) (List.mem_of_getElem? (i := 3) rfl) rfl (v := .ref (gw_ad w 93)) rfl dX7_fingerprint_264 ?_
                          refine g_bipush (pc := 267) hX (by decide) dX7_fingerprint_267 ?_
                          refine g_lald (pc := 269) hX 93 (by omega) m93 (by omega) (by omega) (by decide) dX7_fingerprint_269 ?_
                          refine g_ladd (pc := 270) hX dX7_fingerprint_270 ?_
                          refine g_lstore_n (pc := 271) hX (lv2 := [(1, vL ((31 * (fpM V (31 * (31 * (fbM V (hsN (scnV V) (hsN V 191 (k1 : Int).toNat) (k2 : Int).toNat) (z : Int).toNat) + V 18) + V 19) (p : Int).toNat)) + (V 20))), (3, vI (p)), (0, .ref (gw_ad w 92))]) rfl (by decide) rfl dX7_fingerprint_271 ?_
                          refine g_iconst (pc := 272) hX dX7_fingerprint_272 ?_
                          refine g_istore_n (pc := 273) hX (lv2 := [(3, vI (0)), (1, vL ((31 * (fpM V (31 * (31 * (fbM V (hsN (scnV V) (hsN V 191 (k1 : Int).toNat) (k2 : Int).toNat) (z : Int).toNat) + V 18) + V 19) (p : Int).toNat)) + (V 20))), (0, .ref (gw_ad w 92))]) rfl (by decide) rfl dX7_fingerprint_273 ?_
                          have ln : ∀ (n0 : Nat) (n : Int), 0 ≤ n → n ≤ V 20 → V 20 - n < n0 → G w { frames := 4, cells := 0, slots := 0, locals := 86 } X 5 274 [(3, vI (n)), (0, .ref (gw_ad w 92)), (1, vL (fnM V (31 * (fpM V (31 * (31 * (fbM V (hsN (scnV V) (hsN V 191 (k1 : Int).toNat) (k2 : Int).toNat) (z : Int).toNat) + V 18) + V 19) (p : Int).toNat) + V 20) (n : Int).toNat))] [] S := by
                            intro n0
                            induction n0 with
                            | zero => intro n  h1n h2n h3n; exact absurd h3n (by omega)
                            | succ n0 ihln =>
                              intro n  h1n h2n h3n 
                              have hnI : inI n := inI_mk (by omega) (by omega)
                              refine g_iload_n (pc := 274) hX 0 rfl dX7_fingerprint_274 ?_
                              refine g_i2l (pc := 275) hX (by first | assumption | exact inI_mk (by omega) (by omega)) dX7_fingerprint_275 ?_
                              refine g_aload_n (pc := 276) hX 1 rfl dX7_fingerprint_276 ?_
                              refine g_get (pc := 277) hX (ci := 7) (fun _ h => List.mem_cons_of_mem _ (List.mem_append_right _ h)) rfl 92 (by omega) m92 0 (by decide) (List.mem_of_getElem? (i := 3) rfl) rfl (v := .ref (gw_ad w 93)) rfl dX7_fingerprint_277 ?_
                              refine g_bipush (pc := 280) hX (by decide) dX7_fingerprint_280 ?_
                              refine g_lald (pc := 282) hX 93 (by omega) m93 (by omega) (by omega) (by decide) dX7_fingerprint_282 ?_
                              refine g_lcmp_ge (pc := 283) (tgt := 327) hX (by first | assumption | exact inI_L (by assumption) | exact inL_mk (by omega) (by omega)) (by first | assumption | exact inI_L (by assumption) | exact inL_mk (by omega) (by omega)) dX7_fingerprint_283 dX7_fingerprint_284 (by decide) (fun c_283 => ?_) (fun c_283 => ?_)
                              · skip
                                refine g_iconst (pc := 327) hX dX7_fingerprint_327 ?_
                                refine g_istore_n (pc := 328) hX (lv2 := [(3, vI (0)), (0, .ref (gw_ad w 92)), (1, vL (fnM V (31 * (fpM V (31 * (31 * (fbM V (hsN (scnV V) (hsN V 191 (k1 : Int).toNat) (k2 : Int).toNat) (z : Int).toNat) + V 18) + V 19) (p : Int).toNat) + V 20) (n : Int).toNat))]) rfl (by decide) rfl dX7_fingerprint_328 ?_
                                have lk6 : ∀ (n0 : Nat) (k6 : Int), 0 ≤ k6 → k6 ≤ 5 → 5 - k6 < n0 → G w { frames := 4, cells := 0, slots := 0, locals := 86 } X 5 329 [(3, vI (k6)), (0, .ref (gw_ad w 92)), (1, vL (hsN (smV V) (fnM V (31 * (fpM V (31 * (31 * (fbM V (hsN (scnV V) (hsN V 191 (k1 : Int).toNat) (k2 : Int).toNat) (z : Int).toNat) + V 18) + V 19) (p : Int).toNat) + V 20) (n : Int).toNat) (k6 : Int).toNat))] [] S := by
                                  intro n0
                                  induction n0 with
                                  | zero => intro k6  h1k6 h2k6 h3k6; exact absurd h3k6 (by omega)
                                  | succ n0 ihlk6 =>
                                    intro k6  h1k6 h2k6 h3k6 
                                    have hk6I : inI k6 := inI_mk (by omega) (by omega)
                                    refine g_iload_n (pc := 329) hX 0 rfl dX7_fingerprint_329 ?_
                                    refine g_iconst (pc := 330) hX dX7_fingerprint_330 ?_
                                    refine g_icmp_ge (pc := 331) (tgt := 352) hX (by first | assumption | exact inI_mk (by omega) (by omega)) (by first | assumption | exact inI_mk (by omega) (by omega)) dX7_fingerprint_331 (by decide) (fun c_331 => ?_) (fun c_331 => ?_)
                                    · skip
                                      refine g_lload_n (pc := 352) hX 2 rfl dX7_fingerprint_352 ?_
                                      refine g_lret (pc := 353) hX hR dX7_fingerprint_353 ?_
                                      refine ⟨vL_c ?_, rfl⟩
                                      rw [show k1 = 8 by omega, show k2 = 11 by omega, show z = 4 by omega, show p = V 19 by omega, show n = V 20 by omega, show k6 = 5 by omega]
                                      rfl
                                    · skip
                                      refine g_ldc2 (pc := 334) hX (z := 31) (List.mem_of_getElem? (i := 2) rfl) (by decide +kernel) dX7_fingerprint_334 ?_
                                      refine g_lload_n (pc := 337) hX 2 rfl dX7_fingerprint_337 ?_
                                      refine g_lmul (pc := 338) hX dX7_fingerprint_338 ?_
                                      refine g_aload_n (pc := 339) hX 1 rfl dX7_fingerprint_339 ?_
                                      refine g_iload_n (pc := 340) hX 0 rfl dX7_fingerprint_340 ?_
                                      refine g_callV1 (pc := 341) (ci := 7) (As := [vI (k6)]) (st2 := [vL (31 * (hsN (smV V) (fnM V (31 * (fpM V (31 * (31 * (fbM V (hsN (scnV V) (hsN V 191 (k1 : Int).toNat) (k2 : Int).toNat) (z : Int).toNat) + V 18) + V 19) (p : Int).toNat) + V 20) (n : Int).toNat) (k6 : Int).toNat))]) hX 92 (by omega) m92 rfl (c_X7_sumOf hN hm hL h19 (x := k6) (by omega)) gX7_fingerprint_X7_sumOf (n := 1) (hw := rfl) (hrc := rfl) (hrs := rfl) (hd := by decide +kernel) (hR := ⟨Nat.le_of_ble_eq_true rfl, Nat.le_of_ble_eq_true rfl⟩) (hn := rfl) (hst := rfl) (hsum := Nat.le_of_ble_eq_true rfl) (hdg := dX7_fingerprint_341) ?_
                                      rintro _ S9 ⟨rfl, e9⟩
                                      rw [e9]
                                      clear e9 S9
                                      refine g_at (pc2 := 344) rfl rfl (st2 := [vL (smV V k6), vL (31 * (hsN (smV V) (fnM V (31 * (fpM V (31 * (31 * (fbM V (hsN (scnV V) (hsN V 191 (k1 : Int).toNat) (k2 : Int).toNat) (z : Int).toNat) + V 18) + V 19) (p : Int).toNat) + V 20) (n : Int).toNat) (k6 : Int).toNat))]) rfl (S2 := S) rfl ?_
                                      refine g_ladd (pc := 344) hX dX7_fingerprint_344 ?_
                                      refine g_lstore_n (pc := 345) hX (lv2 := [(1, vL ((31 * (hsN (smV V) (fnM V (31 * (fpM V (31 * (31 * (fbM V (hsN (scnV V) (hsN V 191 (k1 : Int).toNat) (k2 : Int).toNat) (z : Int).toNat) + V 18) + V 19) (p : Int).toNat) + V 20) (n : Int).toNat) (k6 : Int).toNat)) + (smV V k6))), (3, vI (k6)), (0, .ref (gw_ad w 92))]) rfl (by decide) rfl dX7_fingerprint_345 ?_
                                      refine g_iinc (pc := 346) hX (lv2 := [(3, vI (k6 + 1)), (1, vL ((31 * (hsN (smV V) (fnM V (31 * (fpM V (31 * (31 * (fbM V (hsN (scnV V) (hsN V 191 (k1 : Int).toNat) (k2 : Int).toNat) (z : Int).toNat) + V 18) + V 19) (p : Int).toNat) + V 20) (n : Int).toNat) (k6 : Int).toNat)) + (smV V k6))), (0, .ref (gw_ad w 92))]) 1 rfl (by decide) rfl dX7_fingerprint_346 ?_
                                      refine g_goto (pc := 349) (tgt := 329) hX dX7_fingerprint_349 (by decide) ?_
                                      refine g_sub (lv2 := [(3, vI (k6 + 1)), (0, .ref (gw_ad w 92)), (1, vL ((31 * (hsN (smV V) (fnM V (31 * (fpM V (31 * (31 * (fbM V (hsN (scnV V) (hsN V 191 (k1 : Int).toNat) (k2 : Int).toNat) (z : Int).toNat) + V 18) + V 19) (p : Int).toNat) + V 20) (n : Int).toNat) (k6 : Int).toNat)) + (smV V k6)))]) [0, 2, 1] rfl ?_
                                      refine g_at rfl (lv2 := [(3, vI (k6 + 1)), (0, .ref (gw_ad w 92)), (1, vL (hsN (smV V) (fnM V (31 * (fpM V (31 * (31 * (fbM V (hsN (scnV V) (hsN V 191 (k1 : Int).toNat) (k2 : Int).toNat) (z : Int).toNat) + V 18) + V 19) (p : Int).toNat) + V 20) (n : Int).toNat) (k6 + 1 : Int).toNat))]) (by rw [hsN_s _ _ h1k6]) rfl (S2 := S) (rfl) ?_
                                      exact ihlk6 (k6 + 1)  (by omega) (by omega) (by omega) 
                                refine g_sub (lv2 := [(3, vI (0)), (0, .ref (gw_ad w 92)), (1, vL (fnM V (31 * (fpM V (31 * (31 * (fbM V (hsN (scnV V) (hsN V 191 (k1 : Int).toNat) (k2 : Int).toNat) (z : Int).toNat) + V 18) + V 19) (p : Int).toNat) + V 20) (n : Int).toNat))]) [0, 1, 2] rfl ?_
                                refine g_at rfl (lv2 := [(3, vI (0)), (0, .ref (gw_ad w 92)), (1, vL (hsN (smV V) (fnM V (31 * (fpM V (31 * (31 * (fbM V (hsN (scnV V) (hsN V 191 (k1 : Int).toNat) (k2 : Int).toNat) (z : Int).toNat) + V 18) + V 19) (p : Int).toNat) + V 20) (n : Int).toNat) (0 : Int).toNat))]) (rfl) rfl (S2 := S) (rfl) ?_
                                exact lk6 ((5 : Int) - 0 + 1).toNat 0  (by omega) (by omega) (by omega) 
                              · skip
                                refine g_iconst (pc := 287) hX dX7_fingerprint_287 ?_
                                refine g_istore (pc := 288) hX (lv2 := [(4, vI (0)), (3, vI (n)), (0, .ref (gw_ad w 92)), (1, vL (fnM V (31 * (fpM V (31 * (31 * (fbM V (hsN (scnV V) (hsN V 191 (k1 : Int).toNat) (k2 : Int).toNat) (z : Int).toNat) + V 18) + V 19) (p : Int).toNat) + V 20) (n : Int).toNat))]) (by decide) rfl dX7_fingerprint_288 ?_
                                have lk5 : ∀ (n0 : Nat) (k5 : Int), 0 ≤ k5 → k5 ≤ 6 → 6 - k5 < n0 → G w { frames := 4, cells := 0, slots := 0, locals := 86 } X 5 290 [(4, vI (k5)), (0, .ref (gw_ad w 92)), (1, vL (hsN (fun x => V (940 + 12 * n + x)) (fnM V (31 * (fpM V (31 * (31 * (fbM V (hsN (scnV V) (hsN V 191 (k1 : Int).toNat) (k2 : Int).toNat) (z : Int).toNat) + V 18) + V 19) (p : Int).toNat) + V 20) (n : Int).toNat) (k5 : Int).toNat)), (3, vI (n))] [] S := by
                                  intro n0
                                  induction n0 with
                                  | zero => intro k5  h1k5 h2k5 h3k5; exact absurd h3k5 (by omega)
                                  | succ n0 ihlk5 =>
                                    intro k5  h1k5 h2k5 h3k5 
                                    have hk5I : inI k5 := inI_mk (by omega) (by omega)
                                    refine g_iload (pc := 290) hX 0 rfl dX7_fingerprint_290 ?_
                                    refine g_bipush (pc := 292) hX (by decide) dX7_fingerprint_292 ?_
                                    refine g_icmp_ge (pc := 294) (tgt := 321) hX (by first | assumption | exact inI_mk (by omega) (by omega)) (by first | assumption | exact inI_mk (by omega) (by omega)) dX7_fingerprint_294 (by decide) (fun c_294 => ?_) (fun c_294 => ?_)
                                    · skip
                                      refine g_iinc (pc := 321) hX (lv2 := [(3, vI (n + 1)), (4, vI (k5)), (0, .ref (gw_ad w 92)), (1, vL (hsN (fun x => V (940 + 12 * n + x)) (fnM V (31 * (fpM V (31 * (31 * (fbM V (hsN (scnV V) (hsN V 191 (k1 : Int).toNat) (k2 : Int).toNat) (z : Int).toNat) + V 18) + V 19) (p : Int).toNat) + V 20) (n : Int).toNat) (k5 : Int).toNat))]) 3 rfl (by decide) rfl dX7_fingerprint_321 ?_
                                      refine g_goto (pc := 324) (tgt := 274) hX dX7_fingerprint_324 (by decide) ?_
                                      refine g_sub (lv2 := [(3, vI (n + 1)), (0, .ref (gw_ad w 92)), (1, vL (hsN (fun x => V (940 + 12 * n + x)) (fnM V (31 * (fpM V (31 * (31 * (fbM V (hsN (scnV V) (hsN V 191 (k1 : Int).toNat) (k2 : Int).toNat) (z : Int).toNat) + V 18) + V 19) (p : Int).toNat) + V 20) (n : Int).toNat) (k5 : Int).toNat))]) [0, 2, 3] rfl ?_
                                      refine g_at rfl (lv2 := [(3, vI (n + 1)), (0, .ref (gw_ad w 92)), (1, vL (fnM V (31 * (fpM V (31 * (31 * (fbM V (hsN (scnV V) (hsN V 191 (k1 : Int).toNat) (k2 : Int).toNat) (z : Int).toNat) + V 18) + V 19) (p : Int).toNat) + V 20) (n + 1 : Int).toNat))]) (by rw [fnM_s V _ h1n, show k5 = 6 by omega]) rfl (S2 := S) (rfl) ?_
                                      exact ihln (n + 1)  (by omega) (by omega) (by omega) 
                                    · skip
                                      refine g_ldc2 (pc := 297) hX (z := 31) (List.mem_of_getElem? (i := 2) rfl) (by decide +kernel) dX7_fingerprint_297 ?_
                                      refine g_lload_n (pc := 300) hX 2 rfl dX7_fingerprint_300 ?_
                                      refine g_lmul (pc := 301) hX dX7_fingerprint_301 ?_
                                      refine g_aload_n (pc := 302) hX 1 rfl dX7_fingerprint_302 ?_
                                      refine g_get (pc := 303) hX (ci := 7) (fun _ h => List.mem_cons_of_mem _ (List.mem_append_right _ h)) rfl 92 (by omega) m92 0 (by decide) (List.mem_of_getElem? (i := 3) rfl) rfl (v := .ref (gw_ad w 93)) rfl dX7_fingerprint_303 ?_
                                      refine g_iload_n (pc := 306) hX 3 rfl dX7_fingerprint_306 ?_
                                      refine g_iload (pc := 307) hX 0 rfl dX7_fingerprint_307 ?_
                                      refine g_callT1 (pc := 309) (As := [vI (n), vI (k5)]) (st2 := [.ref (gw_ad w 93), vL (31 * (hsN (fun x => V (940 + 12 * n + x)) (fnM V (31 * (fpM V (31 * (31 * (fbM V (hsN (scnV V) (hsN V 191 (k1 : Int).toNat) (k2 : Int).toNat) (z : Int).toNat) + V 18) + V 19) (p : Int).toNat) + V 20) (n : Int).toNat) (k5 : Int).toNat))]) hX (c_X7_noteAt (z := n) (k := k5)) gX7_fingerprint_X7_noteAt (n := 2) (hw := rfl) (hrc := rfl) (hrs := rfl) (hd := by decide +kernel) (hR := ⟨Nat.le_of_ble_eq_true rfl, Nat.le_of_ble_eq_true rfl⟩) (hn := rfl) (hst := rfl) (hsum := Nat.le_of_ble_eq_true rfl) (hdg := dX7_fingerprint_309) ?_
                                      rintro _ S9 ⟨rfl, e9⟩
                                      rw [e9]
                                      clear e9 S9
                                      refine g_at (pc2 := 312) rfl rfl (st2 := [vI (940 + 12 * n + k5), .ref (gw_ad w 93), vL (31 * (hsN (fun x => V (940 + 12 * n + x)) (fnM V (31 * (fpM V (31 * (31 * (fbM V (hsN (scnV V) (hsN V 191 (k1 : Int).toNat) (k2 : Int).toNat) (z : Int).toNat) + V 18) + V 19) (p : Int).toNat) + V 20) (n : Int).toNat) (k5 : Int).toNat))]) rfl (S2 := S) rfl ?_
                                      refine g_lald (pc := 312) hX 93 (by omega) m93 (by omega) (by omega) (by decide) dX7_fingerprint_312 ?_
                                      refine g_ladd (pc := 313) hX dX7_fingerprint_313 ?_
                                      refine g_lstore_n (pc := 314) hX (lv2 := [(1, vL ((31 * (hsN (fun x => V (940 + 12 * n + x)) (fnM V (31 * (fpM V (31 * (31 * (fbM V (hsN (scnV V) (hsN V 191 (k1 : Int).toNat) (k2 : Int).toNat) (z : Int).toNat) + V 18) + V 19) (p : Int).toNat) + V 20) (n : Int).toNat) (k5 : Int).toNat)) + (V (940 + 12 * n + k5)))), (4, vI (k5)), (0, .ref (gw_ad w 92)), (3, vI (n))]) rfl (by decide) rfl dX7_fingerprint_314 ?_
                                      refine g_iinc (pc := 315) hX (lv2 := [(4, vI (k5 + 1)), (1, vL ((31 * (hsN (fun x => V (940 + 12 * n + x)) (fnM V (31 * (fpM V (31 * (31 * (fbM V (hsN (scnV V) (hsN V 191 (k1 : Int).toNat) (k2 : Int).toNat) (z : Int).toNat) + V 18) + V 19) (p : Int).toNat) + V 20) (n : Int).toNat) (k5 : Int).toNat)) + (V (940 + 12 * n + k5)))), (0, .ref (gw_ad w 92)), (3, vI (n))]) 1 rfl (by decide) rfl dX7_fingerprint_315 ?_
                                      refine g_goto (pc := 318) (tgt := 290) hX dX7_fingerprint_318 (by decide) ?_
                                      refine g_sub (lv2 := [(4, vI (k5 + 1)), (0, .ref (gw_ad w 92)), (1, vL ((31 * (hsN (fun x => V (940 + 12 * n + x)) (fnM V (31 * (fpM V (31 * (31 * (fbM V (hsN (scnV V) (hsN V 191 (k1 : Int).toNat) (k2 : Int).toNat) (z : Int).toNat) + V 18) + V 19) (p : Int).toNat) + V 20) (n : Int).toNat) (k5 : Int).toNat)) + (V (940 + 12 * n + k5)))), (3, vI (n))]) [0, 2, 1, 3] rfl ?_
                                      refine g_at rfl (lv2 := [(4, vI (k5 + 1)), (0, .ref (gw_ad w 92)), (1, vL (hsN (fun x => V (940 + 12 * n + x)) (fnM V (31 * (fpM V (31 * (31 * (fbM V (hsN (scnV V) (hsN V 191 (k1 : Int).toNat) (k2 : Int).toNat) (z : Int).toNat) + V 18) + V 19) (p : Int).toNat) + V 20) (n : Int).toNat) (k5 + 1 : Int).toNat)), (3, vI (n))]) (by rw [hsN_s _ _ h1k5]) rfl (S2 := S) (rfl) ?_
                                      exact ihlk5 (k5 + 1)  (by omega) (by omega) (by omega) 
                                refine g_sub (lv2 := [(4, vI (0)), (0, .ref (gw_ad w 92)), (1, vL (fnM V (31 * (fpM V (31 * (31 * (fbM V (hsN (scnV V) (hsN V 191 (k1 : Int).toNat) (k2 : Int).toNat) (z : Int).toNat) + V 18) + V 19) (p : Int).toNat) + V 20) (n : Int).toNat)), (3, vI (n))]) [0, 2, 3, 1] rfl ?_
                                refine g_at rfl (lv2 := [(4, vI (0)), (0, .ref (gw_ad w 92)), (1, vL (hsN (fun x => V (940 + 12 * n + x)) (fnM V (31 * (fpM V (31 * (31 * (fbM V (hsN (scnV V) (hsN V 191 (k1 : Int).toNat) (k2 : Int).toNat) (z : Int).toNat) + V 18) + V 19) (p : Int).toNat) + V 20) (n : Int).toNat) (0 : Int).toNat)), (3, vI (n))]) (rfl) rfl (S2 := S) (rfl) ?_
                                exact lk5 ((6 : Int) - 0 + 1).toNat 0  (by omega) (by omega) (by omega) 
                          refine g_sub (lv2 := [(3, vI (0)), (0, .ref (gw_ad w 92)), (1, vL ((31 * (fpM V (31 * (31 * (fbM V (hsN (scnV V) (hsN V 191 (k1 : Int).toNat) (k2 : Int).toNat) (z : Int).toNat) + V 18) + V 19) (p : Int).toNat)) + (V 20)))]) [0, 2, 1] rfl ?_
                          refine g_at rfl (lv2 := [(3, vI (0)), (0, .ref (gw_ad w 92)), (1, vL (fnM V (31 * (fpM V (31 * (31 * (fbM V (hsN (scnV V) (hsN V 191 (k1 : Int).toNat) (k2 : Int).toNat) (z : Int).toNat) + V 18) + V 19) (p : Int).toNat) + V 20) (0 : Int).toNat))]) (rfl) rfl (S2 := S) (rfl) ?_
                          exact ln ((V 20 : Int) - 0 + 1).toNat 0  (by omega) (by omega) (by omega) 
                        · skip
                          have hrc := rcV_b V p
                          have hwy := hsr p h1p (by omega)
                          refine g_iconst (pc := 186) hX dX7_fingerprint_186 ?_
                          refine g_istore (pc := 187) hX (lv2 := [(4, vI (0)), (3, vI (p)), (0, .ref (gw_ad w 92)), (1, vL (fpM V (31 * (31 * (fbM V (hsN (scnV V) (hsN V 191 (k1 : Int).toNat) (k2 : Int).toNat) (z : Int).toNat) + V 18) + V 19) (p : Int).toNat))]) (by decide) rfl dX7_fingerprint_187 ?_
                          have lk4 : ∀ (n0 : Nat) (k4 : Int), 0 ≤ k4 → k4 ≤ 11 → 11 - k4 < n0 → G w { frames := 4, cells := 0, slots := 0, locals := 86 } X 5 189 [(4, vI (k4)), (0, .ref (gw_ad w 92)), (1, vL (hsN (toldV V p) (fpM V (31 * (31 * (fbM V (hsN (scnV V) (hsN V 191 (k1 : Int).toNat) (k2 : Int).toNat) (z : Int).toNat) + V 18) + V 19) (p : Int).toNat) (k4 : Int).toNat)), (3, vI (p))] [] S := by
                            intro n0
                            induction n0 with
                            | zero => intro k4  h1k4 h2k4 h3k4; exact absurd h3k4 (by omega)
                            | succ n0 ihlk4 =>
                              intro k4  h1k4 h2k4 h3k4 
                              have hk4I : inI k4 := inI_mk (by omega) (by omega)
                              refine g_iload (pc := 189) hX 0 rfl dX7_fingerprint_189 ?_
                              refine g_bipush (pc := 191) hX (by decide) dX7_fingerprint_191 ?_
                              refine g_icmp_ge (pc := 193) (tgt := 216) hX (by first | assumption | exact inI_mk (by omega) (by omega)) (by first | assumption | exact inI_mk (by omega) (by omega)) dX7_fingerprint_193 (by decide) (fun c_193 => ?_) (fun c_193 => ?_)
                              · skip
                                refine g_iconst (pc := 216) hX dX7_fingerprint_216 ?_
                                refine g_istore (pc := 217) hX (lv2 := [(4, vI (0)), (0, .ref (gw_ad w 92)), (1, vL (hsN (toldV V p) (fpM V (31 * (31 * (fbM V (hsN (scnV V) (hsN V 191 (k1 : Int).toNat) (k2 : Int).toNat) (z : Int).toNat) + V 18) + V 19) (p : Int).toNat) (k4 : Int).toNat)), (3, vI (p))]) (by decide) rfl dX7_fingerprint_217 ?_
                                have li : ∀ (n0 : Nat) (i : Int), 0 ≤ i → i ≤ rcV V p → rcV V p - i < n0 → G w { frames := 4, cells := 0, slots := 0, locals := 86 } X 5 219 [(4, vI (i)), (0, .ref (gw_ad w 92)), (1, vL (hsN (rsV V p) (hsN (toldV V p) (fpM V (31 * (31 * (fbM V (hsN (scnV V) (hsN V 191 (k1 : Int).toNat) (k2 : Int).toNat) (z : Int).toNat) + V 18) + V 19) (p : Int).toNat) (k4 : Int).toNat) (i : Int).toNat)), (3, vI (p))] [] S := by
                                  intro n0
                                  induction n0 with
                                  | zero => intro i  h1i h2i h3i; exact absurd h3i (by omega)
                                  | succ n0 ihli =>
                                    intro i  h1i h2i h3i 
                                    have hiI : inI i := inI_mk (by omega) (by omega)
                                    refine g_aload_n (pc := 219) hX 1 rfl dX7_fingerprint_219 ?_
                                    refine g_iload_n (pc := 220) hX 3 rfl dX7_fingerprint_220 ?_
                                    refine g_iload (pc := 221) hX 0 rfl dX7_fingerprint_221 ?_
                                    refine g_callV1 (pc := 223) (ci := 7) (As := [vI (p), vI (i)]) (st2 := []) hX 92 (by omega) m92 rfl (c_X7_reason hN hm (p := p) (i := i) (by omega) (by omega) hwy.2.2) gX7_fingerprint_X7_reason (n := 2) (hw := rfl) (hrc := rfl) (hrs := rfl) (hd := by decide +kernel) (hR := ⟨Nat.le_of_ble_eq_true rfl, Nat.le_of_ble_eq_true rfl⟩) (hn := rfl) (hst := rfl) (hsum := Nat.le_of_ble_eq_true rfl) (hdg := dX7_fingerprint_223) ?_
                                    rintro _ S9 ⟨rfl, e9⟩
                                    rw [e9]
                                    clear e9 S9
                                    refine g_at (pc2 := 226) rfl rfl (st2 := [vI (rsV V p i)]) rfl (S2 := S) rfl ?_
                                    refine g_ldc (pc := 226) hX (z := -1000009) (List.mem_of_getElem? (i := 4) rfl) (by decide +kernel) dX7_fingerprint_226 ?_
                                    refine g_icmp_eq (pc := 228) (tgt := 252) hX (rsV_in hwy h1i) (by first | assumption | exact inI_mk (by omega) (by omega)) dX7_fingerprint_228 (by decide) (fun c_228 => ?_) (fun c_228 => ?_)
                                    · skip
                                      have hir : i = rcV V p := Int.le_antisymm h2i (Int.not_lt.mp (fun h => by have := ((rsV_c hwy h1i).1 h).1; omega))
                                      refine g_iinc (pc := 252) hX (lv2 := [(3, vI (p + 1)), (4, vI (i)), (0, .ref (gw_ad w 92)), (1, vL (hsN (rsV V p) (hsN (toldV V p) (fpM V (31 * (31 * (fbM V (hsN (scnV V) (hsN V 191 (k1 : Int).toNat) (k2 : Int).toNat) (z : Int).toNat) + V 18) + V 19) (p : Int).toNat) (k4 : Int).toNat) (i : Int).toNat))]) 3 rfl (by decide) rfl dX7_fingerprint_252 ?_
                                      refine g_goto (pc := 255) (tgt := 173) hX dX7_fingerprint_255 (by decide) ?_
                                      refine g_sub (lv2 := [(3, vI (p + 1)), (0, .ref (gw_ad w 92)), (1, vL (hsN (rsV V p) (hsN (toldV V p) (fpM V (31 * (31 * (fbM V (hsN (scnV V) (hsN V 191 (k1 : Int).toNat) (k2 : Int).toNat) (z : Int).toNat) + V 18) + V 19) (p : Int).toNat) (k4 : Int).toNat) (i : Int).toNat))]) [0, 2, 3] rfl ?_
                                      refine g_at rfl (lv2 := [(3, vI (p + 1)), (0, .ref (gw_ad w 92)), (1, vL (fpM V (31 * (31 * (fbM V (hsN (scnV V) (hsN V 191 (k1 : Int).toNat) (k2 : Int).toNat) (z : Int).toNat) + V 18) + V 19) (p + 1 : Int).toNat))]) (by rw [fpM_s V _ h1p, show k4 = 11 by omega, hir]) rfl (S2 := S) (rfl) ?_
                                      exact ihlp (p + 1)  (by omega) (by omega) (by omega) 
                                    · skip
                                      have hir : i < rcV V p := Int.not_le.mp (fun h => c_228 ((rsV_c hwy h1i).2 h))
                                      refine g_ldc2 (pc := 231) hX (z := 31) (List.mem_of_getElem? (i := 2) rfl) (by decide +kernel) dX7_fingerprint_231 ?_
                                      refine g_lload_n (pc := 234) hX 2 rfl dX7_fingerprint_234 ?_
                                      refine g_lmul (pc := 235) hX dX7_fingerprint_235 ?_
                                      refine g_aload_n (pc := 236) hX 1 rfl dX7_fingerprint_236 ?_
                                      refine g_iload_n (pc := 237) hX 3 rfl dX7_fingerprint_237 ?_
                                      refine g_iload (pc := 238) hX 0 rfl dX7_fingerprint_238 ?_
                                      refine g_callV1 (pc := 240) (ci := 7) (As := [vI (p), vI (i)]) (st2 := [vL (31 * (hsN (rsV V p) (hsN (toldV V p) (fpM V (31 * (31 * (fbM V (hsN (scnV V) (hsN V 191 (k1 : Int).toNat) (k2 : Int).toNat) (z : Int).toNat) + V 18) + V 19) (p : Int).toNat) (k4 : Int).toNat) (i : Int).toNat))]) hX 92 (by omega) m92 rfl (c_X7_reason hN hm (p := p) (i := i) (by omega) (by omega) hwy.2.2) gX7_fingerprint_X7_reason (n := 2) (hw := rfl) (hrc := rfl) (hrs := rfl) (hd := by decide +kernel) (hR := ⟨Nat.le_of_ble_eq_true rfl, Nat.le_of_ble_eq_true rfl⟩) (hn := rfl) (hst := rfl) (hsum := Nat.le_of_ble_eq_true rfl) (hdg := dX7_fingerprint_240) ?_
                                      rintro _ S9 ⟨rfl, e9⟩
                                      rw [e9]
                                      clear e9 S9
                                      refine g_at (pc2 := 243) rfl rfl (st2 := [vI (rsV V p i), vL (31 * (hsN (rsV V p) (hsN (toldV V p) (fpM V (31 * (31 * (fbM V (hsN (scnV V) (hsN V 191 (k1 : Int).toNat) (k2 : Int).toNat) (z : Int).toNat) + V 18) + V 19) (p : Int).toNat) (k4 : Int).toNat) (i : Int).toNat))]) rfl (S2 := S) rfl ?_
                                      refine g_i2l (pc := 243) hX (rsV_in hwy h1i) dX7_fingerprint_243 ?_
                                      refine g_ladd (pc := 244) hX dX7_fingerprint_244 ?_
                                      refine g_lstore_n (pc := 245) hX (lv2 := [(1, vL ((31 * (hsN (rsV V p) (hsN (toldV V p) (fpM V (31 * (31 * (fbM V (hsN (scnV V) (hsN V 191 (k1 : Int).toNat) (k2 : Int).toNat) (z : Int).toNat) + V 18) + V 19) (p : Int).toNat) (k4 : Int).toNat) (i : Int).toNat)) + (rsV V p i))), (4, vI (i)), (0, .ref (gw_ad w 92)), (3, vI (p))]) rfl (by decide) rfl dX7_fingerprint_245 ?_
                                      refine g_iinc (pc := 246) hX (lv2 := [(4, vI (i + 1)), (1, vL ((31 * (hsN (rsV V p) (hsN (toldV V p) (fpM V (31 * (31 * (fbM V (hsN (scnV V) (hsN V 191 (k1 : Int).toNat) (k2 : Int).toNat) (z : Int).toNat) + V 18) + V 19) (p : Int).toNat) (k4 : Int).toNat) (i : Int).toNat)) + (rsV V p i))), (0, .ref (gw_ad w 92)), (3, vI (p))]) 1 rfl (by decide) rfl dX7_fingerprint_246 ?_
                                      refine g_goto (pc := 249) (tgt := 219) hX dX7_fingerprint_249 (by decide) ?_
                                      refine g_sub (lv2 := [(4, vI (i + 1)), (0, .ref (gw_ad w 92)), (1, vL ((31 * (hsN (rsV V p) (hsN (toldV V p) (fpM V (31 * (31 * (fbM V (hsN (scnV V) (hsN V 191 (k1 : Int).toNat) (k2 : Int).toNat) (z : Int).toNat) + V 18) + V 19) (p : Int).toNat) (k4 : Int).toNat) (i : Int).toNat)) + (rsV V p i))), (3, vI (p))]) [0, 2, 1, 3] rfl ?_
                                      refine g_at rfl (lv2 := [(4, vI (i + 1)), (0, .ref (gw_ad w 92)), (1, vL (hsN (rsV V p) (hsN (toldV V p) (fpM V (31 * (31 * (fbM V (hsN (scnV V) (hsN V 191 (k1 : Int).toNat) (k2 : Int).toNat) (z : Int).toNat) + V 18) + V 19) (p : Int).toNat) (k4 : Int).toNat) (i + 1 : Int).toNat)), (3, vI (p))]) (by rw [hsN_s _ _ h1i]) rfl (S2 := S) (rfl) ?_
                                      exact ihli (i + 1)  (by omega) (by omega) (by omega) 
                                refine g_sub (lv2 := [(4, vI (0)), (0, .ref (gw_ad w 92)), (1, vL (hsN (toldV V p) (fpM V (31 * (31 * (fbM V (hsN (scnV V) (hsN V 191 (k1 : Int).toNat) (k2 : Int).toNat) (z : Int).toNat) + V 18) + V 19) (p : Int).toNat) (k4 : Int).toNat)), (3, vI (p))]) [0, 1, 2, 3] rfl ?_
                                refine g_at rfl (lv2 := [(4, vI (0)), (0, .ref (gw_ad w 92)), (1, vL (hsN (rsV V p) (hsN (toldV V p) (fpM V (31 * (31 * (fbM V (hsN (scnV V) (hsN V 191 (k1 : Int).toNat) (k2 : Int).toNat) (z : Int).toNat) + V 18) + V 19) (p : Int).toNat) (k4 : Int).toNat) (0 : Int).toNat)), (3, vI (p))]) (rfl) rfl (S2 := S) (rfl) ?_
                                exact li ((rcV V p : Int) - 0 + 1).toNat 0  (by omega) (by omega) (by omega) 
                              · skip
                                refine g_ldc2 (pc := 196) hX (z := 31) (List.mem_of_getElem? (i := 2) rfl) (by decide +kernel) dX7_fingerprint_196 ?_
                                refine g_lload_n (pc := 199) hX 2 rfl dX7_fingerprint_199 ?_
                                refine g_lmul (pc := 200) hX dX7_fingerprint_200 ?_
                                refine g_aload_n (pc := 201) hX 1 rfl dX7_fingerprint_201 ?_
                                refine g_iload_n (pc := 202) hX 3 rfl dX7_fingerprint_202 ?_
                                refine g_iload (pc := 203) hX 0 rfl dX7_fingerprint_203 ?_
                                refine g_callV1 (pc := 205) (ci := 7) (As := [vI (p), vI (k4)]) (st2 := [vL (31 * (hsN (toldV V p) (fpM V (31 * (31 * (fbM V (hsN (scnV V) (hsN V 191 (k1 : Int).toNat) (k2 : Int).toNat) (z : Int).toNat) + V 18) + V 19) (p : Int).toNat) (k4 : Int).toNat))]) hX 92 (by omega) m92 rfl (c_X7_told hN hm hL h20 (p := p) (x := k4) (by omega) (by omega) (hsp p h1p (by omega))) gX7_fingerprint_X7_told (n := 2) (hw := rfl) (hrc := rfl) (hrs := rfl) (hd := by decide +kernel) (hR := ⟨Nat.le_of_ble_eq_true rfl, Nat.le_of_ble_eq_true rfl⟩) (hn := rfl) (hst := rfl) (hsum := Nat.le_of_ble_eq_true rfl) (hdg := dX7_fingerprint_205) ?_
                                rintro _ S9 ⟨rfl, e9⟩
                                rw [e9]
                                clear e9 S9
                                refine g_at (pc2 := 208) rfl rfl (st2 := [vL (toldV V p k4), vL (31 * (hsN (toldV V p) (fpM V (31 * (31 * (fbM V (hsN (scnV V) (hsN V 191 (k1 : Int).toNat) (k2 : Int).toNat) (z : Int).toNat) + V 18) + V 19) (p : Int).toNat) (k4 : Int).toNat))]) rfl (S2 := S) rfl ?_
                                refine g_ladd (pc := 208) hX dX7_fingerprint_208 ?_
                                refine g_lstore_n (pc := 209) hX (lv2 := [(1, vL ((31 * (hsN (toldV V p) (fpM V (31 * (31 * (fbM V (hsN (scnV V) (hsN V 191 (k1 : Int).toNat) (k2 : Int).toNat) (z : Int).toNat) + V 18) + V 19) (p : Int).toNat) (k4 : Int).toNat)) + (toldV V p k4))), (4, vI (k4)), (0, .ref (gw_ad w 92)), (3, vI (p))]) rfl (by decide) rfl dX7_fingerprint_209 ?_
                                refine g_iinc (pc := 210) hX (lv2 := [(4, vI (k4 + 1)), (1, vL ((31 * (hsN (toldV V p) (fpM V (31 * (31 * (fbM V (hsN (scnV V) (hsN V 191 (k1 : Int).toNat) (k2 : Int).toNat) (z : Int).toNat) + V 18) + V 19) (p : Int).toNat) (k4 : Int).toNat)) + (toldV V p k4))), (0, .ref (gw_ad w 92)), (3, vI (p))]) 1 rfl (by decide) rfl dX7_fingerprint_210 ?_
                                refine g_goto (pc := 213) (tgt := 189) hX dX7_fingerprint_213 (by decide) ?_
                                refine g_sub (lv2 := [(4, vI (k4 + 1)), (0, .ref (gw_ad w 92)), (1, vL ((31 * (hsN (toldV V p) (fpM V (31 * (31 * (fbM V (hsN (scnV V) (hsN V 191 (k1 : Int).toNat) (k2 : Int).toNat) (z : Int).toNat) + V 18) + V 19) (p : Int).toNat) (k4 : Int).toNat)) + (toldV V p k4))), (3, vI (p))]) [0, 2, 1, 3] rfl ?_
                                refine g_at rfl (lv2 := [(4, vI (k4 + 1)), (0, .ref (gw_ad w 92)), (1, vL (hsN (toldV V p) (fpM V (31 * (31 * (fbM V (hsN (scnV V) (hsN V 191 (k1 : Int).toNat) (k2 : Int).toNat) (z : Int).toNat) + V 18) + V 19) (p : Int).toNat) (k4 + 1 : Int).toNat)), (3, vI (p))]) (by rw [hsN_s _ _ h1k4]) rfl (S2 := S) (rfl) ?_
                                exact ihlk4 (k4 + 1)  (by omega) (by omega) (by omega) 
                          refine g_sub (lv2 := [(4, vI (0)), (0, .ref (gw_ad w 92)), (1, vL (fpM V (31 * (31 * (fbM V (hsN (scnV V) (hsN V 191 (k1 : Int).toNat) (k2 : Int).toNat) (z : Int).toNat) + V 18) + V 19) (p : Int).toNat)), (3, vI (p))]) [0, 2, 3, 1] rfl ?_
                          refine g_at rfl (lv2 := [(4, vI (0)), (0, .ref (gw_ad w 92)), (1, vL (hsN (toldV V p) (fpM V (31 * (31 * (fbM V (hsN (scnV V) (hsN V 191 (k1 : Int).toNat) (k2 : Int).toNat) (z : Int).toNat) + V 18) + V 19) (p : Int).toNat) (0 : Int).toNat)), (3, vI (p))]) (rfl) rfl (S2 := S) (rfl) ?_
                          exact lk4 ((11 : Int) - 0 + 1).toNat 0  (by omega) (by omega) (by omega) 
                    refine g_sub (lv2 := [(3, vI (0)), (0, .ref (gw_ad w 92)), (1, vL ((31 * ((31 * (fbM V (hsN (scnV V) (hsN V 191 (k1 : Int).toNat) (k2 : Int).toNat) (z : Int).toNat)) + (V 18))) + (V 19)))]) [0, 2, 1] rfl ?_
                    refine g_at rfl (lv2 := [(3, vI (0)), (0, .ref (gw_ad w 92)), (1, vL (fpM V (31 * (31 * (fbM V (hsN (scnV V) (hsN V 191 (k1 : Int).toNat) (k2 : Int).toNat) (z : Int).toNat) + V 18) + V 19) (0 : Int).toNat))]) (rfl) rfl (S2 := S) (rfl) ?_
                    exact lp ((V 19 : Int) - 0 + 1).toNat 0  (by omega) (by omega) (by omega) 
                  · skip
                    have hBz := hB z (by omega) (by omega)
                    refine g_ldc2 (pc := 64) hX (z := 31) (List.mem_of_getElem? (i := 2) rfl) (by decide +kernel) dX7_fingerprint_64 ?_
                    refine g_lload_n (pc := 67) hX 2 rfl dX7_fingerprint_67 ?_
                    refine g_lmul (pc := 68) hX dX7_fingerprint_68 ?_
                    refine g_aload_n (pc := 69) hX 1 rfl dX7_fingerprint_69 ?_
                    refine g_iload_n (pc := 70) hX 0 rfl dX7_fingerprint_70 ?_
                    refine g_callV1 (pc := 71) (ci := 7) (As := [vI (z)]) (st2 := [vL (31 * (fbM V (hsN (scnV V) (hsN V 191 (k1 : Int).toNat) (k2 : Int).toNat) (z : Int).toNat))]) hX 92 (by omega) m92 rfl (c_X7_bands hN hm (z := z) (by omega) (by omega)) gX7_fingerprint_X7_bands (n := 1) (hw := rfl) (hrc := rfl) (hrs := rfl) (hd := by decide +kernel) (hR := ⟨Nat.le_of_ble_eq_true rfl, Nat.le_of_ble_eq_true rfl⟩) (hn := rfl) (hst := rfl) (hsum := Nat.le_of_ble_eq_true rfl) (hdg := dX7_fingerprint_71) ?_
                    rintro _ S9 ⟨rfl, e9⟩
                    rw [e9]
                    clear e9 S9
                    refine g_at (pc2 := 74) rfl rfl (st2 := [vI (V (24 + 14 * z)), vL (31 * (fbM V (hsN (scnV V) (hsN V 191 (k1 : Int).toNat) (k2 : Int).toNat) (z : Int).toNat))]) rfl (S2 := S) rfl ?_
                    refine g_i2l (pc := 74) hX (by first | assumption | exact inI_mk (by omega) (by omega)) dX7_fingerprint_74 ?_
                    refine g_ladd (pc := 75) hX dX7_fingerprint_75 ?_
                    refine g_lstore_n (pc := 76) hX (lv2 := [(1, vL ((31 * (fbM V (hsN (scnV V) (hsN V 191 (k1 : Int).toNat) (k2 : Int).toNat) (z : Int).toNat)) + (V (24 + 14 * z)))), (3, vI (z)), (0, .ref (gw_ad w 92))]) rfl (by decide) rfl dX7_fingerprint_76 ?_
                    refine g_iconst (pc := 77) hX dX7_fingerprint_77 ?_
                    refine g_istore (pc := 78) hX (lv2 := [(4, vI (0)), (1, vL ((31 * (fbM V (hsN (scnV V) (hsN V 191 (k1 : Int).toNat) (k2 : Int).toNat) (z : Int).toNat)) + (V (24 + 14 * z)))), (3, vI (z)), (0, .ref (gw_ad w 92))]) (by decide) rfl dX7_fingerprint_78 ?_
                    have lk3 : ∀ (n0 : Nat) (k3 : Int), 0 ≤ k3 → k3 ≤ 2 * V (24 + 14 * z) → 2 * V (24 + 14 * z) - k3 < n0 → G w { frames := 4, cells := 0, slots := 0, locals := 86 } X 5 80 [(4, vI (k3)), (0, .ref (gw_ad w 92)), (1, vL (hsN (fun k => V (24 + 14 * z + 2 + 2 * 0 + k)) (31 * (fbM V (hsN (scnV V) (hsN V 191 (k1 : Int).toNat) (k2 : Int).toNat) (z : Int).toNat) + V (24 + 14 * z)) (k3 : Int).toNat)), (3, vI (z))] [] S := by
                      intro n0
                      induction n0 with
                      | zero => intro k3  h1k3 h2k3 h3k3; exact absurd h3k3 (by omega)
                      | succ n0 ihlk3 =>
                        intro k3  h1k3 h2k3 h3k3 
                        have hk3I : inI k3 := inI_mk (by omega) (by omega)
                        refine g_iload (pc := 80) hX 0 rfl dX7_fingerprint_80 ?_
                        refine g_iconst (pc := 82) hX dX7_fingerprint_82 ?_
                        refine g_aload_n (pc := 83) hX 1 rfl dX7_fingerprint_83 ?_
                        refine g_iload_n (pc := 84) hX 3 rfl dX7_fingerprint_84 ?_
                        refine g_callV1 (pc := 85) (ci := 7) (As := [vI (z)]) (st2 := [vI (2), vI (k3)]) hX 92 (by omega) m92 rfl (c_X7_bands hN hm (z := z) (by omega) (by omega)) gX7_fingerprint_X7_bands (n := 1) (hw := rfl) (hrc := rfl) (hrs := rfl) (hd := by decide +kernel) (hR := ⟨Nat.le_of_ble_eq_true rfl, Nat.le_of_ble_eq_true rfl⟩) (hn := rfl) (hst := rfl) (hsum := Nat.le_of_ble_eq_true rfl) (hdg := dX7_fingerprint_85) ?_
                        rintro _ S9 ⟨rfl, e9⟩
                        rw [e9]
                        clear e9 S9
                        refine g_at (pc2 := 88) rfl rfl (st2 := [vI (V (24 + 14 * z)), vI (2), vI (k3)]) rfl (S2 := S) rfl ?_
                        refine g_imul (pc := 88) hX dX7_fingerprint_88 ?_
                        refine g_icmp_ge (pc := 89) (tgt := 118) hX (by first | assumption | exact inI_mk (by omega) (by omega)) (by first | assumption | exact inI_mk (by omega) (by omega)) dX7_fingerprint_89 (by decide) (fun c_89 => ?_) (fun c_89 => ?_)
                        · skip
                          refine g_ldc2 (pc := 118) hX (z := 31) (List.mem_of_getElem? (i := 2) rfl) (by decide +kernel) dX7_fingerprint_118 ?_
                          refine g_lload_n (pc := 121) hX 2 rfl dX7_fingerprint_121 ?_
                          refine g_lmul (pc := 122) hX dX7_fingerprint_122 ?_
                          refine g_aload_n (pc := 123) hX 1 rfl dX7_fingerprint_123 ?_
                          refine g_get (pc := 124) hX (ci := 7) (fun _ h => List.mem_cons_of_mem _ (List.mem_append_right _ h)) rfl 92 (by omega) m92 0 (by decide) (List.mem_of_getElem? (i := 3) rfl) rfl (v := .ref (gw_ad w 93)) rfl dX7_fingerprint_124 ?_
                          refine g_bipush (pc := 127) hX (by decide) dX7_fingerprint_127 ?_
                          refine g_bipush (pc := 129) hX (by decide) dX7_fingerprint_129 ?_
                          refine g_iload_n (pc := 131) hX 3 rfl dX7_fingerprint_131 ?_
                          refine g_imul (pc := 132) hX dX7_fingerprint_132 ?_
                          refine g_iadd (pc := 133) hX dX7_fingerprint_133 ?_
                          refine g_iconst (pc := 134) hX dX7_fingerprint_134 ?_
                          refine g_iadd (pc := 135) hX dX7_fingerprint_135 ?_
                          refine g_lald (pc := 136) hX 93 (by omega) m93 (by omega) (by omega) (by decide) dX7_fingerprint_136 ?_
                          refine g_ladd (pc := 137) hX dX7_fingerprint_137 ?_
                          refine g_lstore_n (pc := 138) hX (lv2 := [(1, vL ((31 * (hsN (fun k => V (24 + 14 * z + 2 + 2 * 0 + k)) (31 * (fbM V (hsN (scnV V) (hsN V 191 (k1 : Int).toNat) (k2 : Int).toNat) (z : Int).toNat) + V (24 + 14 * z)) (k3 : Int).toNat)) + (V ((24 + (14 * z)) + 1)))), (4, vI (k3)), (0, .ref (gw_ad w 92)), (3, vI (z))]) rfl (by decide) rfl dX7_fingerprint_138 ?_
                          refine g_iinc (pc := 139) hX (lv2 := [(3, vI (z + 1)), (1, vL ((31 * (hsN (fun k => V (24 + 14 * z + 2 + 2 * 0 + k)) (31 * (fbM V (hsN (scnV V) (hsN V 191 (k1 : Int).toNat) (k2 : Int).toNat) (z : Int).toNat) + V (24 + 14 * z)) (k3 : Int).toNat)) + (V ((24 + (14 * z)) + 1)))), (4, vI (k3)), (0, .ref (gw_ad w 92))]) 3 rfl (by decide) rfl dX7_fingerprint_139 ?_
                          refine g_goto (pc := 142) (tgt := 59) hX dX7_fingerprint_142 (by decide) ?_
                          refine g_sub (lv2 := [(3, vI (z + 1)), (0, .ref (gw_ad w 92)), (1, vL ((31 * (hsN (fun k => V (24 + 14 * z + 2 + 2 * 0 + k)) (31 * (fbM V (hsN (scnV V) (hsN V 191 (k1 : Int).toNat) (k2 : Int).toNat) (z : Int).toNat) + V (24 + 14 * z)) (k3 : Int).toNat)) + (V ((24 + (14 * z)) + 1))))]) [0, 3, 1] rfl ?_
                          refine g_at rfl (lv2 := [(3, vI (z + 1)), (0, .ref (gw_ad w 92)), (1, vL (fbM V (hsN (scnV V) (hsN V 191 (k1 : Int).toNat) (k2 : Int).toNat) (z + 1 : Int).toNat))]) (by rw [fbM_s V _ h1z, show k3 = 2 * V (24 + 14 * z) by omega]) rfl (S2 := S) (rfl) ?_
                          exact ihlz (z + 1)  (by omega) (by omega) (by omega) 
                        · skip
                          refine g_ldc2 (pc := 92) hX (z := 31) (List.mem_of_getElem? (i := 2) rfl) (by decide +kernel) dX7_fingerprint_92 ?_
                          refine g_lload_n (pc := 95) hX 2 rfl dX7_fingerprint_95 ?_
                          refine g_lmul (pc := 96) hX dX7_fingerprint_96 ?_
                          refine g_aload_n (pc := 97) hX 1 rfl dX7_fingerprint_97 ?_
                          refine g_get (pc := 98) hX (ci := 7) (fun _ h => List.mem_cons_of_mem _ (List.mem_append_right _ h)) rfl 92 (by omega) m92 0 (by decide) (List.mem_of_getElem? (i := 3) rfl) rfl (v := .ref (gw_ad w 93)) rfl dX7_fingerprint_98 ?_
                          refine g_iload_n (pc := 101) hX 3 rfl dX7_fingerprint_101 ?_
                          refine g_iconst (pc := 102) hX dX7_fingerprint_102 ?_
                          refine g_callT1 (pc := 103) (As := [vI (z), vI (0)]) (st2 := [.ref (gw_ad w 93), vL (31 * (hsN (fun k => V (24 + 14 * z + 2 + 2 * 0 + k)) (31 * (fbM V (hsN (scnV V) (hsN V 191 (k1 : Int).toNat) (k2 : Int).toNat) (z : Int).toNat) + V (24 + 14 * z)) (k3 : Int).toNat))]) hX (c_X7_placeOf (z := z) (k := 0)) gX7_fingerprint_X7_placeOf (n := 2) (hw := rfl) (hrc := rfl) (hrs := rfl) (hd := by decide +kernel) (hR := ⟨Nat.le_of_ble_eq_true rfl, Nat.le_of_ble_eq_true rfl⟩) (hn := rfl) (hst := rfl) (hsum := Nat.le_of_ble_eq_true rfl) (hdg := dX7_fingerprint_103) ?_
                          rintro _ S9 ⟨rfl, e9⟩
                          rw [e9]
                          clear e9 S9
                          refine g_at (pc2 := 106) rfl rfl (st2 := [vI (24 + 14 * z + 2 + 2 * 0), .ref (gw_ad w 93), vL (31 * (hsN (fun k => V (24 + 14 * z + 2 + 2 * 0 + k)) (31 * (fbM V (hsN (scnV V) (hsN V 191 (k1 : Int).toNat) (k2 : Int).toNat) (z : Int).toNat) + V (24 + 14 * z)) (k3 : Int).toNat))]) rfl (S2 := S) rfl ?_
                          refine g_iload (pc := 106) hX 0 rfl dX7_fingerprint_106 ?_
                          refine g_iadd (pc := 108) hX dX7_fingerprint_108 ?_
                          refine g_lald (pc := 109) hX 93 (by omega) m93 (by omega) (by omega) (by decide) dX7_fingerprint_109 ?_
                          refine g_ladd (pc := 110) hX dX7_fingerprint_110 ?_
                          refine g_lstore_n (pc := 111) hX (lv2 := [(1, vL ((31 * (hsN (fun k => V (24 + 14 * z + 2 + 2 * 0 + k)) (31 * (fbM V (hsN (scnV V) (hsN V 191 (k1 : Int).toNat) (k2 : Int).toNat) (z : Int).toNat) + V (24 + 14 * z)) (k3 : Int).toNat)) + (V ((24 + 14 * z + 2 + 2 * 0) + k3)))), (4, vI (k3)), (0, .ref (gw_ad w 92)), (3, vI (z))]) rfl (by decide) rfl dX7_fingerprint_111 ?_
                          refine g_iinc (pc := 112) hX (lv2 := [(4, vI (k3 + 1)), (1, vL ((31 * (hsN (fun k => V (24 + 14 * z + 2 + 2 * 0 + k)) (31 * (fbM V (hsN (scnV V) (hsN V 191 (k1 : Int).toNat) (k2 : Int).toNat) (z : Int).toNat) + V (24 + 14 * z)) (k3 : Int).toNat)) + (V ((24 + 14 * z + 2 + 2 * 0) + k3)))), (0, .ref (gw_ad w 92)), (3, vI (z))]) 1 rfl (by decide) rfl dX7_fingerprint_112 ?_
                          refine g_goto (pc := 115) (tgt := 80) hX dX7_fingerprint_115 (by decide) ?_
                          refine g_sub (lv2 := [(4, vI (k3 + 1)), (0, .ref (gw_ad w 92)), (1, vL ((31 * (hsN (fun k => V (24 + 14 * z + 2 + 2 * 0 + k)) (31 * (fbM V (hsN (scnV V) (hsN V 191 (k1 : Int).toNat) (k2 : Int).toNat) (z : Int).toNat) + V (24 + 14 * z)) (k3 : Int).toNat)) + (V ((24 + 14 * z + 2 + 2 * 0) + k3)))), (3, vI (z))]) [0, 2, 1, 3] rfl ?_
                          refine g_at rfl (lv2 := [(4, vI (k3 + 1)), (0, .ref (gw_ad w 92)), (1, vL (hsN (fun k => V (24 + 14 * z + 2 + 2 * 0 + k)) (31 * (fbM V (hsN (scnV V) (hsN V 191 (k1 : Int).toNat) (k2 : Int).toNat) (z : Int).toNat) + V (24 + 14 * z)) (k3 + 1 : Int).toNat)), (3, vI (z))]) (by rw [hsN_s _ _ h1k3]) rfl (S2 := S) (rfl) ?_
                          exact ihlk3 (k3 + 1)  (by omega) (by omega) (by omega) 
                    refine g_sub (lv2 := [(4, vI (0)), (0, .ref (gw_ad w 92)), (1, vL ((31 * (fbM V (hsN (scnV V) (hsN V 191 (k1 : Int).toNat) (k2 : Int).toNat) (z : Int).toNat)) + (V (24 + 14 * z)))), (3, vI (z))]) [0, 3, 1, 2] rfl ?_
                    refine g_at rfl (lv2 := [(4, vI (0)), (0, .ref (gw_ad w 92)), (1, vL (hsN (fun k => V (24 + 14 * z + 2 + 2 * 0 + k)) (31 * (fbM V (hsN (scnV V) (hsN V 191 (k1 : Int).toNat) (k2 : Int).toNat) (z : Int).toNat) + V (24 + 14 * z)) (0 : Int).toNat)), (3, vI (z))]) (rfl) rfl (S2 := S) (rfl) ?_
                    exact lk3 ((2 * V (24 + 14 * z) : Int) - 0 + 1).toNat 0  (by omega) (by omega) (by omega) 
              refine g_sub (lv2 := [(3, vI (0)), (0, .ref (gw_ad w 92)), (1, vL (hsN (scnV V) (hsN V 191 (k1 : Int).toNat) (k2 : Int).toNat))]) [0, 1, 2] rfl ?_
              refine g_at rfl (lv2 := [(3, vI (0)), (0, .ref (gw_ad w 92)), (1, vL (fbM V (hsN (scnV V) (hsN V 191 (k1 : Int).toNat) (k2 : Int).toNat) (0 : Int).toNat))]) (rfl) rfl (S2 := S) (rfl) ?_
              exact lz ((4 : Int) - 0 + 1).toNat 0  (by omega) (by omega) (by omega) 
            · skip
              refine g_ldc2 (pc := 39) hX (z := 31) (List.mem_of_getElem? (i := 2) rfl) (by decide +kernel) dX7_fingerprint_39 ?_
              refine g_lload_n (pc := 42) hX 2 rfl dX7_fingerprint_42 ?_
              refine g_lmul (pc := 43) hX dX7_fingerprint_43 ?_
              refine g_aload_n (pc := 44) hX 1 rfl dX7_fingerprint_44 ?_
              refine g_iload_n (pc := 45) hX 0 rfl dX7_fingerprint_45 ?_
              refine g_callV1 (pc := 46) (ci := 7) (As := [vI (k2)]) (st2 := [vL (31 * (hsN (scnV V) (hsN V 191 (k1 : Int).toNat) (k2 : Int).toNat))]) hX 92 (by omega) m92 rfl (c_X7_scaleOf hN hm hv (i := k2) (by omega) (by omega)) gX7_fingerprint_X7_scaleOf (n := 1) (hw := rfl) (hrc := rfl) (hrs := rfl) (hd := by decide +kernel) (hR := ⟨Nat.le_of_ble_eq_true rfl, Nat.le_of_ble_eq_true rfl⟩) (hn := rfl) (hst := rfl) (hsum := Nat.le_of_ble_eq_true rfl) (hdg := dX7_fingerprint_46) ?_
              rintro _ S9 ⟨rfl, e9⟩
              rw [e9]
              clear e9 S9
              refine g_at (pc2 := 49) rfl rfl (st2 := [vL (scnV V k2), vL (31 * (hsN (scnV V) (hsN V 191 (k1 : Int).toNat) (k2 : Int).toNat))]) rfl (S2 := S) rfl ?_
              refine g_ladd (pc := 49) hX dX7_fingerprint_49 ?_
              refine g_lstore_n (pc := 50) hX (lv2 := [(1, vL ((31 * (hsN (scnV V) (hsN V 191 (k1 : Int).toNat) (k2 : Int).toNat)) + (scnV V k2))), (3, vI (k2)), (0, .ref (gw_ad w 92))]) rfl (by decide) rfl dX7_fingerprint_50 ?_
              refine g_iinc (pc := 51) hX (lv2 := [(3, vI (k2 + 1)), (1, vL ((31 * (hsN (scnV V) (hsN V 191 (k1 : Int).toNat) (k2 : Int).toNat)) + (scnV V k2))), (0, .ref (gw_ad w 92))]) 1 rfl (by decide) rfl dX7_fingerprint_51 ?_
              refine g_goto (pc := 54) (tgt := 33) hX dX7_fingerprint_54 (by decide) ?_
              refine g_sub (lv2 := [(3, vI (k2 + 1)), (0, .ref (gw_ad w 92)), (1, vL ((31 * (hsN (scnV V) (hsN V 191 (k1 : Int).toNat) (k2 : Int).toNat)) + (scnV V k2)))]) [0, 2, 1] rfl ?_
              refine g_at rfl (lv2 := [(3, vI (k2 + 1)), (0, .ref (gw_ad w 92)), (1, vL (hsN (scnV V) (hsN V 191 (k1 : Int).toNat) (k2 + 1 : Int).toNat))]) (by rw [hsN_s _ _ h1k2]) rfl (S2 := S) (rfl) ?_
              exact ihlk2 (k2 + 1)  (by omega) (by omega) (by omega) 
        refine g_sub (lv2 := [(3, vI (0)), (0, .ref (gw_ad w 92)), (1, vL (hsN V 191 (k1 : Int).toNat))]) [0, 1, 2] rfl ?_
        refine g_at rfl (lv2 := [(3, vI (0)), (0, .ref (gw_ad w 92)), (1, vL (hsN (scnV V) (hsN V 191 (k1 : Int).toNat) (0 : Int).toNat))]) (rfl) rfl (S2 := S) (rfl) ?_
        exact lk2 ((11 : Int) - 0 + 1).toNat 0  (by omega) (by omega) (by omega) 
      · skip
        refine g_ldc2 (pc := 12) hX (z := 31) (List.mem_of_getElem? (i := 2) rfl) (by decide +kernel) dX7_fingerprint_12 ?_
        refine g_lload_n (pc := 15) hX 2 rfl dX7_fingerprint_15 ?_
        refine g_lmul (pc := 16) hX dX7_fingerprint_16 ?_
        refine g_aload_n (pc := 17) hX 1 rfl dX7_fingerprint_17 ?_
        refine g_get (pc := 18) hX (ci := 7) (fun _ h => List.mem_cons_of_mem _ (List.mem_append_right _ h)) rfl 92 (by omega) m92 0 (by decide) (List.mem_of_getElem? (i := 3) rfl) rfl (v := .ref (gw_ad w 93)) rfl dX7_fingerprint_18 ?_
        refine g_iload_n (pc := 21) hX 0 rfl dX7_fingerprint_21 ?_
        refine g_lald (pc := 22) hX 93 (by omega) m93 (by omega) (by omega) (by decide) dX7_fingerprint_22 ?_
        refine g_ladd (pc := 23) hX dX7_fingerprint_23 ?_
        refine g_lstore_n (pc := 24) hX (lv2 := [(1, vL ((31 * (hsN V 191 (k1 : Int).toNat)) + (V k1))), (3, vI (k1)), (0, .ref (gw_ad w 92))]) rfl (by decide) rfl dX7_fingerprint_24 ?_
        refine g_iinc (pc := 25) hX (lv2 := [(3, vI (k1 + 1)), (1, vL ((31 * (hsN V 191 (k1 : Int).toNat)) + (V k1))), (0, .ref (gw_ad w 92))]) 1 rfl (by decide) rfl dX7_fingerprint_25 ?_
        refine g_goto (pc := 28) (tgt := 6) hX dX7_fingerprint_28 (by decide) ?_
        refine g_sub (lv2 := [(3, vI (k1 + 1)), (0, .ref (gw_ad w 92)), (1, vL ((31 * (hsN V 191 (k1 : Int).toNat)) + (V k1)))]) [0, 2, 1] rfl ?_
        refine g_at rfl (lv2 := [(3, vI (k1 + 1)), (0, .ref (gw_ad w 92)), (1, vL (hsN V 191 (k1 + 1 : Int).toNat))]) (by rw [hsN_s _ _ h1k1]) rfl (S2 := S) (rfl) ?_
        exact ihlk1 (k1 + 1)  (by omega) (by omega) (by omega) 
  refine g_sub (lv2 := [(3, vI (0)), (0, .ref (gw_ad w 92)), (1, vL (191))]) [0, 2, 1] rfl ?_
  refine g_at rfl (lv2 := [(3, vI (0)), (0, .ref (gw_ad w 92)), (1, vL (hsN V 191 (0 : Int).toNat))]) (rfl) rfl (S2 := S) (rfl) ?_
  exact lk1 ((8 : Int) - 0 + 1).toNat 0  (by omega) (by omega) (by omega) 
