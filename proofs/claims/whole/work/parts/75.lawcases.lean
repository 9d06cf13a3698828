/-! ===== the law: one theorem for each case of its switch ===== -/
theorem inL_of (x : Int64) : inL x.toInt := ⟨by have := x.le_toInt; omega, by have := x.toInt_lt; omega⟩
theorem cat_le (v : Value) : ([v].map fun v => v.category).sum ≤ 8 := by cases v <;> exact Nat.le_of_ble_eq_true rfl
set_option maxHeartbeats 4000000 in
theorem law_set {w : gW} {X : gX} {b L : Nat} {f : Nat → Int} {i : Int} {S : Nat → va_E} (hX : gOK w room_1 X cL_law 8 RL wsL_law) (hT : scrT w X b L f) (hL : L ≤ 3072) (hf : ∀ j, inI (f j)) (hi : 0 ≤ i ∧ i + 6 ≤ L) (hI0 : INV w S) (hk : ∀ S', INV w S' → G w room_1 X 8 1070 [(3, vI i), (0, .ref b), (1, .ref (gw_ad w 0)), (2, .ref (gw_ad w 92))] [] S') : G w room_1 X 8 176 [(3, vI i), (0, .ref b), (1, .ref (gw_ad w 0)), (2, .ref (gw_ad w 92))] [] S := by
  obtain ⟨pc, j, ty, B, ρ, T, Tr, D, Z, pm, tm, xm, at_, wm, wh, ir, V, PV, TY, TX, MK, MM, CH, AM, WT, WK, FL, PI, s0, hI⟩ := hI0
  obtain ⟨K6, m6, hk6⟩ := two_set (l := gx_l X) hI (hf (i + 1).toNat) (hf (i + 2).toNat)
  refine g_aload_n (pc := 176) hX 2 rfl dL_law_176 ?_
  refine g_aload_n (pc := 177) hX 1 rfl dL_law_177 ?_
  refine g_iload_n (pc := 178) hX 0 rfl dL_law_178 ?_
  refine g_iconst (pc := 179) hX dL_law_179 ?_
  refine g_iadd (pc := 180) hX dL_law_180 ?_
  refine g_scald (pc := 181) hX hT (by omega) (by omega) (by omega) dL_law_181 ?_
  refine g_aload_n (pc := 182) hX 1 rfl dL_law_182 ?_
  refine g_iload_n (pc := 183) hX 0 rfl dL_law_183 ?_
  refine g_iconst (pc := 184) hX dL_law_184 ?_
  refine g_iadd (pc := 185) hX dL_law_185 ?_
  refine g_scald (pc := 186) hX hT (by omega) (by omega) (by omega) dL_law_186 ?_
  refine g_callV1 (pc := 187) (ci := 6) (As := [vI (f (i + 1).toNat), vI (f (i + 2).toNat)]) (st2 := []) hX 0 (by rw [hI.1.1]; decide) hI.1.2.1.1.1 rfl m6 gL_law_X6_set (n := 2) (hw := rfl) (hrc := rfl) (hrs := rfl) (hd := by decide +kernel) (hR := ⟨Nat.le_of_ble_eq_true rfl, Nat.le_of_ble_eq_true rfl⟩) (hn := rfl) (hst := rfl) (hsum := Nat.le_of_ble_eq_true rfl) (hdg := dL_law_187) ?_
  intro v S1 h6
  obtain ⟨e92, K7, m7, hk7⟩ := hk6 v S1 h6
  refine g_aload_n (pc := 190) hX 3 rfl dL_law_190 ?_
  refine g_aload_n (pc := 191) hX 1 rfl dL_law_191 ?_
  refine g_iload_n (pc := 192) hX 0 rfl dL_law_192 ?_
  refine g_iconst (pc := 193) hX dL_law_193 ?_
  refine g_iadd (pc := 194) hX dL_law_194 ?_
  refine g_scald (pc := 195) hX hT (by omega) (by omega) (by omega) dL_law_195 ?_
  refine g_aload_n (pc := 196) hX 1 rfl dL_law_196 ?_
  refine g_iload_n (pc := 197) hX 0 rfl dL_law_197 ?_
  refine g_iconst (pc := 198) hX dL_law_198 ?_
  refine g_iadd (pc := 199) hX dL_law_199 ?_
  refine g_scald (pc := 200) hX hT (by omega) (by omega) (by omega) dL_law_200 ?_
  refine g_callV1 (pc := 201) (ci := 7) (As := [vI (f (i + 1).toNat), vI (f (i + 2).toNat)]) (st2 := [v]) hX 92 (by rw [hI.1.1]; decide) (e92.trans hI.1.2.2.1.1) rfl m7 gL_law_X7_set (n := 2) (hw := rfl) (hrc := rfl) (hrs := rfl) (hd := by decide +kernel) (hR := ⟨Nat.le_of_ble_eq_true rfl, Nat.le_of_ble_eq_true rfl⟩) (hn := rfl) (hst := rfl) (hsum := (cat_le v)) (hdg := dL_law_201) ?_
  intro v' S2 h7
  obtain ⟨e, ⟨z, hz⟩, hS2⟩ := hk7 v' S2 h7
  obtain ⟨z2, ez, hz2⟩ := iI_ex (iI z)
  have hv : v = vI z2 := hz.trans (congrArg Value.int ez)
  have hv2 : v' = vI z2 := e.trans hv
  subst hv2
  refine g_at rfl rfl (st2 := [vI z2, vI z2]) (by rw [hv]) rfl ?_
  refine g_icmp_eq (pc := 204) (tgt := 1070) hX hz2 hz2 dL_law_204 (by decide) (fun _ => ?_) (fun q => absurd rfl q)
  exact hk S2 hS2
set_option maxHeartbeats 4000000 in
theorem law_setting {w : gW} {X : gX} {b L : Nat} {f : Nat → Int} {i : Int} {S : Nat → va_E} (hX : gOK w room_1 X cL_law 8 RL wsL_law) (hT : scrT w X b L f) (hL : L ≤ 3072) (hf : ∀ j, inI (f j)) (hi : 0 ≤ i ∧ i + 6 ≤ L) (hI0 : INV w S) (hk : ∀ S', INV w S' → G w room_1 X 8 1070 [(3, vI i), (0, .ref b), (1, .ref (gw_ad w 0)), (2, .ref (gw_ad w 92))] [] S') : G w room_1 X 8 209 [(3, vI i), (0, .ref b), (1, .ref (gw_ad w 0)), (2, .ref (gw_ad w 92))] [] S := by
  obtain ⟨pc, j, ty, B, ρ, T, Tr, D, Z, pm, tm, xm, at_, wm, wh, ir, V, PV, TY, TX, MK, MM, CH, AM, WT, WK, FL, PI, s0, hI⟩ := hI0
  obtain ⟨K6, m6, hk6⟩ := two_setting (l := gx_l X) hI (hf (i + 1).toNat)
  refine g_aload_n (pc := 209) hX 2 rfl dL_law_209 ?_
  refine g_aload_n (pc := 210) hX 1 rfl dL_law_210 ?_
  refine g_iload_n (pc := 211) hX 0 rfl dL_law_211 ?_
  refine g_iconst (pc := 212) hX dL_law_212 ?_
  refine g_iadd (pc := 213) hX dL_law_213 ?_
  refine g_scald (pc := 214) hX hT (by omega) (by omega) (by omega) dL_law_214 ?_
  refine g_callV1 (pc := 215) (ci := 6) (As := [vI (f (i + 1).toNat)]) (st2 := []) hX 0 (by rw [hI.1.1]; decide) hI.1.2.1.1.1 rfl m6 gL_law_X6_setting (n := 1) (hw := rfl) (hrc := rfl) (hrs := rfl) (hd := by decide +kernel) (hR := ⟨Nat.le_of_ble_eq_true rfl, Nat.le_of_ble_eq_true rfl⟩) (hn := rfl) (hst := rfl) (hsum := Nat.le_of_ble_eq_true rfl) (hdg := dL_law_215) ?_
  intro v S1 h6
  obtain ⟨e92, K7, m7, hk7⟩ := hk6 v S1 h6
  refine g_aload_n (pc := 218) hX 3 rfl dL_law_218 ?_
  refine g_aload_n (pc := 219) hX 1 rfl dL_law_219 ?_
  refine g_iload_n (pc := 220) hX 0 rfl dL_law_220 ?_
  refine g_iconst (pc := 221) hX dL_law_221 ?_
  refine g_iadd (pc := 222) hX dL_law_222 ?_
  refine g_scald (pc := 223) hX hT (by omega) (by omega) (by omega) dL_law_223 ?_
  refine g_callV1 (pc := 224) (ci := 7) (As := [vI (f (i + 1).toNat)]) (st2 := [v]) hX 92 (by rw [hI.1.1]; decide) (e92.trans hI.1.2.2.1.1) rfl m7 gL_law_X7_setting (n := 1) (hw := rfl) (hrc := rfl) (hrs := rfl) (hd := by decide +kernel) (hR := ⟨Nat.le_of_ble_eq_true rfl, Nat.le_of_ble_eq_true rfl⟩) (hn := rfl) (hst := rfl) (hsum := (cat_le v)) (hdg := dL_law_224) ?_
  intro v' S2 h7
  obtain ⟨e, ⟨z, hz⟩, hS2⟩ := hk7 v' S2 h7
  obtain ⟨z2, ez, hz2⟩ := iI_ex (iI z)
  have hv : v = vI z2 := hz.trans (congrArg Value.int ez)
  have hv2 : v' = vI z2 := e.trans hv
  subst hv2
  refine g_at rfl rfl (st2 := [vI z2, vI z2]) (by rw [hv]) rfl ?_
  refine g_icmp_eq (pc := 227) (tgt := 1070) hX hz2 hz2 dL_law_227 (by decide) (fun _ => ?_) (fun q => absurd rfl q)
  exact hk S2 hS2
set_option maxHeartbeats 4000000 in
theorem law_load {w : gW} {X : gX} {b L : Nat} {f : Nat → Int} {i : Int} {S : Nat → va_E} (hX : gOK w room_1 X cL_law 8 RL wsL_law) (hT : scrT w X b L f) (hL : L ≤ 3072) (hf : ∀ j, inI (f j)) (hi : 0 ≤ i ∧ i + 6 ≤ L) (hI0 : INV w S) (hk : ∀ S', INV w S' → G w room_1 X 8 1070 [(3, vI i), (0, .ref b), (1, .ref (gw_ad w 0)), (2, .ref (gw_ad w 92))] [] S') : G w room_1 X 8 232 [(3, vI i), (0, .ref b), (1, .ref (gw_ad w 0)), (2, .ref (gw_ad w 92))] [] S := by
  obtain ⟨pc, j, ty, B, ρ, T, Tr, D, Z, pm, tm, xm, at_, wm, wh, ir, V, PV, TY, TX, MK, MM, CH, AM, WT, WK, FL, PI, s0, hI⟩ := hI0
  obtain ⟨K6, m6, hk6⟩ := two_load (l := gx_l X) hI (hf (i + 1).toNat)
  refine g_aload_n (pc := 232) hX 2 rfl dL_law_232 ?_
  refine g_aload_n (pc := 233) hX 1 rfl dL_law_233 ?_
  refine g_iload_n (pc := 234) hX 0 rfl dL_law_234 ?_
  refine g_iconst (pc := 235) hX dL_law_235 ?_
  refine g_iadd (pc := 236) hX dL_law_236 ?_
  refine g_scald (pc := 237) hX hT (by omega) (by omega) (by omega) dL_law_237 ?_
  refine g_callV1 (pc := 238) (ci := 6) (As := [vI (f (i + 1).toNat)]) (st2 := []) hX 0 (by rw [hI.1.1]; decide) hI.1.2.1.1.1 rfl m6 gL_law_X6_load (n := 1) (hw := rfl) (hrc := rfl) (hrs := rfl) (hd := by decide +kernel) (hR := ⟨Nat.le_of_ble_eq_true rfl, Nat.le_of_ble_eq_true rfl⟩) (hn := rfl) (hst := rfl) (hsum := Nat.le_of_ble_eq_true rfl) (hdg := dL_law_238) ?_
  intro v S1 h6
  obtain ⟨e92, K7, m7, hk7⟩ := hk6 v S1 h6
  refine g_aload_n (pc := 241) hX 3 rfl dL_law_241 ?_
  refine g_aload_n (pc := 242) hX 1 rfl dL_law_242 ?_
  refine g_iload_n (pc := 243) hX 0 rfl dL_law_243 ?_
  refine g_iconst (pc := 244) hX dL_law_244 ?_
  refine g_iadd (pc := 245) hX dL_law_245 ?_
  refine g_scald (pc := 246) hX hT (by omega) (by omega) (by omega) dL_law_246 ?_
  refine g_callV1 (pc := 247) (ci := 7) (As := [vI (f (i + 1).toNat)]) (st2 := [v]) hX 92 (by rw [hI.1.1]; decide) (e92.trans hI.1.2.2.1.1) rfl m7 gL_law_X7_load (n := 1) (hw := rfl) (hrc := rfl) (hrs := rfl) (hd := by decide +kernel) (hR := ⟨Nat.le_of_ble_eq_true rfl, Nat.le_of_ble_eq_true rfl⟩) (hn := rfl) (hst := rfl) (hsum := (cat_le v)) (hdg := dL_law_247) ?_
  intro v' S2 h7
  obtain ⟨e, ⟨z, hz⟩, hS2⟩ := hk7 v' S2 h7
  obtain ⟨z2, ez, hz2⟩ := iI_ex (iI z)
  have hv : v = vI z2 := hz.trans (congrArg Value.int ez)
  have hv2 : v' = vI z2 := e.trans hv
  subst hv2
  refine g_at rfl rfl (st2 := [vI z2, vI z2]) (by rw [hv]) rfl ?_
  refine g_icmp_eq (pc := 250) (tgt := 1070) hX hz2 hz2 dL_law_250 (by decide) (fun _ => ?_) (fun q => absurd rfl q)
  exact hk S2 hS2
set_option maxHeartbeats 4000000 in
theorem law_tick {w : gW} {X : gX} {b L : Nat} {f : Nat → Int} {i : Int} {S : Nat → va_E} (hX : gOK w room_1 X cL_law 8 RL wsL_law) (hT : scrT w X b L f) (hL : L ≤ 3072) (hf : ∀ j, inI (f j)) (hi : 0 ≤ i ∧ i + 6 ≤ L) (hI0 : INV w S) (hk : ∀ S', INV w S' → G w room_1 X 8 1070 [(3, vI i), (0, .ref b), (1, .ref (gw_ad w 0)), (2, .ref (gw_ad w 92))] [] S') : G w room_1 X 8 255 [(3, vI i), (0, .ref b), (1, .ref (gw_ad w 0)), (2, .ref (gw_ad w 92))] [] S := by
  obtain ⟨pc, j, ty, B, ρ, T, Tr, D, Z, pm, tm, xm, at_, wm, wh, ir, V, PV, TY, TX, MK, MM, CH, AM, WT, WK, FL, PI, s0, hI⟩ := hI0
  obtain ⟨K6, m6, hk6⟩ := two_tick (l := gx_l X) hI (hf (i + 1).toNat)
  refine g_aload_n (pc := 255) hX 2 rfl dL_law_255 ?_
  refine g_aload_n (pc := 256) hX 1 rfl dL_law_256 ?_
  refine g_iload_n (pc := 257) hX 0 rfl dL_law_257 ?_
  refine g_iconst (pc := 258) hX dL_law_258 ?_
  refine g_iadd (pc := 259) hX dL_law_259 ?_
  refine g_scald (pc := 260) hX hT (by omega) (by omega) (by omega) dL_law_260 ?_
  refine g_callV1 (pc := 261) (ci := 6) (As := [vI (f (i + 1).toNat)]) (st2 := []) hX 0 (by rw [hI.1.1]; decide) hI.1.2.1.1.1 rfl m6 gL_law_X6_tick (n := 1) (hw := rfl) (hrc := rfl) (hrs := rfl) (hd := by decide +kernel) (hR := ⟨Nat.le_of_ble_eq_true rfl, Nat.le_of_ble_eq_true rfl⟩) (hn := rfl) (hst := rfl) (hsum := Nat.le_of_ble_eq_true rfl) (hdg := dL_law_261) ?_
  intro v S1 h6
  obtain ⟨e92, K7, m7, hk7⟩ := hk6 v S1 h6
  refine g_aload_n (pc := 264) hX 3 rfl dL_law_264 ?_
  refine g_aload_n (pc := 265) hX 1 rfl dL_law_265 ?_
  refine g_iload_n (pc := 266) hX 0 rfl dL_law_266 ?_
  refine g_iconst (pc := 267) hX dL_law_267 ?_
  refine g_iadd (pc := 268) hX dL_law_268 ?_
  refine g_scald (pc := 269) hX hT (by omega) (by omega) (by omega) dL_law_269 ?_
  refine g_callV1 (pc := 270) (ci := 7) (As := [vI (f (i + 1).toNat)]) (st2 := [v]) hX 92 (by rw [hI.1.1]; decide) (e92.trans hI.1.2.2.1.1) rfl m7 gL_law_X7_tick (n := 1) (hw := rfl) (hrc := rfl) (hrs := rfl) (hd := by decide +kernel) (hR := ⟨Nat.le_of_ble_eq_true rfl, Nat.le_of_ble_eq_true rfl⟩) (hn := rfl) (hst := rfl) (hsum := (cat_le v)) (hdg := dL_law_270) ?_
  intro v' S2 h7
  obtain ⟨e, ⟨z, hz⟩, hS2⟩ := hk7 v' S2 h7
  obtain ⟨z2, ez, hz2⟩ := iI_ex (iI z)
  have hv : v = vI z2 := hz.trans (congrArg Value.int ez)
  have hv2 : v' = vI z2 := e.trans hv
  subst hv2
  refine g_at rfl rfl (st2 := [vI z2, vI z2]) (by rw [hv]) rfl ?_
  refine g_icmp_eq (pc := 273) (tgt := 1070) hX hz2 hz2 dL_law_273 (by decide) (fun _ => ?_) (fun q => absurd rfl q)
  exact hk S2 hS2
set_option maxHeartbeats 4000000 in
theorem law_zero {w : gW} {X : gX} {b L : Nat} {f : Nat → Int} {i : Int} {S : Nat → va_E} (hX : gOK w room_1 X cL_law 8 RL wsL_law) (hT : scrT w X b L f) (hL : L ≤ 3072) (hf : ∀ j, inI (f j)) (hi : 0 ≤ i ∧ i + 6 ≤ L) (hI0 : INV w S) (hk : ∀ S', INV w S' → G w room_1 X 8 1070 [(3, vI i), (0, .ref b), (1, .ref (gw_ad w 0)), (2, .ref (gw_ad w 92))] [] S') : G w room_1 X 8 278 [(3, vI i), (0, .ref b), (1, .ref (gw_ad w 0)), (2, .ref (gw_ad w 92))] [] S := by
  obtain ⟨pc, j, ty, B, ρ, T, Tr, D, Z, pm, tm, xm, at_, wm, wh, ir, V, PV, TY, TX, MK, MM, CH, AM, WT, WK, FL, PI, s0, hI⟩ := hI0
  obtain ⟨K6, m6, hk6⟩ := two_zero (l := gx_l X) hI
  refine g_aload_n (pc := 278) hX 2 rfl dL_law_278 ?_
  refine g_callV1 (pc := 279) (ci := 6) (As := []) (st2 := []) hX 0 (by rw [hI.1.1]; decide) hI.1.2.1.1.1 rfl m6 gL_law_X6_zero (n := 0) (hw := rfl) (hrc := rfl) (hrs := rfl) (hd := by decide +kernel) (hR := ⟨Nat.le_of_ble_eq_true rfl, Nat.le_of_ble_eq_true rfl⟩) (hn := rfl) (hst := rfl) (hsum := Nat.le_of_ble_eq_true rfl) (hdg := dL_law_279) ?_
  intro v S1 h6
  obtain ⟨e92, K7, m7, hk7⟩ := hk6 v S1 h6
  refine g_aload_n (pc := 282) hX 3 rfl dL_law_282 ?_
  refine g_callV1 (pc := 283) (ci := 7) (As := []) (st2 := [v]) hX 92 (by rw [hI.1.1]; decide) (e92.trans hI.1.2.2.1.1) rfl m7 gL_law_X7_zero (n := 0) (hw := rfl) (hrc := rfl) (hrs := rfl) (hd := by decide +kernel) (hR := ⟨Nat.le_of_ble_eq_true rfl, Nat.le_of_ble_eq_true rfl⟩) (hn := rfl) (hst := rfl) (hsum := (cat_le v)) (hdg := dL_law_283) ?_
  intro v' S2 h7
  obtain ⟨e, ⟨z, hz⟩, hS2⟩ := hk7 v' S2 h7
  obtain ⟨z2, ez, hz2⟩ := iI_ex (iI z)
  have hv : v = vI z2 := hz.trans (congrArg Value.int ez)
  have hv2 : v' = vI z2 := e.trans hv
  subst hv2
  refine g_at rfl rfl (st2 := [vI z2, vI z2]) (by rw [hv]) rfl ?_
  refine g_icmp_eq (pc := 286) (tgt := 1070) hX hz2 hz2 dL_law_286 (by decide) (fun _ => ?_) (fun q => absurd rfl q)
  exact hk S2 hS2
set_option maxHeartbeats 4000000 in
theorem law_tare {w : gW} {X : gX} {b L : Nat} {f : Nat → Int} {i : Int} {S : Nat → va_E} (hX : gOK w room_1 X cL_law 8 RL wsL_law) (hT : scrT w X b L f) (hL : L ≤ 3072) (hf : ∀ j, inI (f j)) (hi : 0 ≤ i ∧ i + 6 ≤ L) (hI0 : INV w S) (hk : ∀ S', INV w S' → G w room_1 X 8 1070 [(3, vI i), (0, .ref b), (1, .ref (gw_ad w 0)), (2, .ref (gw_ad w 92))] [] S') : G w room_1 X 8 291 [(3, vI i), (0, .ref b), (1, .ref (gw_ad w 0)), (2, .ref (gw_ad w 92))] [] S := by
  obtain ⟨pc, j, ty, B, ρ, T, Tr, D, Z, pm, tm, xm, at_, wm, wh, ir, V, PV, TY, TX, MK, MM, CH, AM, WT, WK, FL, PI, s0, hI⟩ := hI0
  obtain ⟨K6, m6, hk6⟩ := two_tare (l := gx_l X) hI
  refine g_aload_n (pc := 291) hX 2 rfl dL_law_291 ?_
  refine g_callV1 (pc := 292) (ci := 6) (As := []) (st2 := []) hX 0 (by rw [hI.1.1]; decide) hI.1.2.1.1.1 rfl m6 gL_law_X6_tare (n := 0) (hw := rfl) (hrc := rfl) (hrs := rfl) (hd := by decide +kernel) (hR := ⟨Nat.le_of_ble_eq_true rfl, Nat.le_of_ble_eq_true rfl⟩) (hn := rfl) (hst := rfl) (hsum := Nat.le_of_ble_eq_true rfl) (hdg := dL_law_292) ?_
  intro v S1 h6
  obtain ⟨e92, K7, m7, hk7⟩ := hk6 v S1 h6
  refine g_aload_n (pc := 295) hX 3 rfl dL_law_295 ?_
  refine g_callV1 (pc := 296) (ci := 7) (As := []) (st2 := [v]) hX 92 (by rw [hI.1.1]; decide) (e92.trans hI.1.2.2.1.1) rfl m7 gL_law_X7_tare (n := 0) (hw := rfl) (hrc := rfl) (hrs := rfl) (hd := by decide +kernel) (hR := ⟨Nat.le_of_ble_eq_true rfl, Nat.le_of_ble_eq_true rfl⟩) (hn := rfl) (hst := rfl) (hsum := (cat_le v)) (hdg := dL_law_296) ?_
  intro v' S2 h7
  obtain ⟨e, ⟨z, hz⟩, hS2⟩ := hk7 v' S2 h7
  obtain ⟨z2, ez, hz2⟩ := iI_ex (iI z)
  have hv : v = vI z2 := hz.trans (congrArg Value.int ez)
  have hv2 : v' = vI z2 := e.trans hv
  subst hv2
  refine g_at rfl rfl (st2 := [vI z2, vI z2]) (by rw [hv]) rfl ?_
  refine g_icmp_eq (pc := 299) (tgt := 1070) hX hz2 hz2 dL_law_299 (by decide) (fun _ => ?_) (fun q => absurd rfl q)
  exact hk S2 hS2
set_option maxHeartbeats 4000000 in
theorem law_scale {w : gW} {X : gX} {b L : Nat} {f : Nat → Int} {i : Int} {S : Nat → va_E} (hX : gOK w room_1 X cL_law 8 RL wsL_law) (hT : scrT w X b L f) (hL : L ≤ 3072) (hf : ∀ j, inI (f j)) (hi : 0 ≤ i ∧ i + 6 ≤ L) (hI0 : INV w S) (hk : ∀ S', INV w S' → G w room_1 X 8 1070 [(3, vI i), (0, .ref b), (1, .ref (gw_ad w 0)), (2, .ref (gw_ad w 92))] [] S') : G w room_1 X 8 304 [(3, vI i), (0, .ref b), (1, .ref (gw_ad w 0)), (2, .ref (gw_ad w 92))] [] S := by
  obtain ⟨pc, j, ty, B, ρ, T, Tr, D, Z, pm, tm, xm, at_, wm, wh, ir, V, PV, TY, TX, MK, MM, CH, AM, WT, WK, FL, PI, s0, hI⟩ := hI0
  obtain ⟨K6, m6, hk6⟩ := two_scale (l := gx_l X) hI (hf (i + 1).toNat)
  refine g_aload_n (pc := 304) hX 2 rfl dL_law_304 ?_
  refine g_aload_n (pc := 305) hX 1 rfl dL_law_305 ?_
  refine g_iload_n (pc := 306) hX 0 rfl dL_law_306 ?_
  refine g_iconst (pc := 307) hX dL_law_307 ?_
  refine g_iadd (pc := 308) hX dL_law_308 ?_
  refine g_scald (pc := 309) hX hT (by omega) (by omega) (by omega) dL_law_309 ?_
  refine g_callV1 (pc := 310) (ci := 6) (As := [vI (f (i + 1).toNat)]) (st2 := []) hX 0 (by rw [hI.1.1]; decide) hI.1.2.1.1.1 rfl m6 gL_law_X6_scale (n := 1) (hw := rfl) (hrc := rfl) (hrs := rfl) (hd := by decide +kernel) (hR := ⟨Nat.le_of_ble_eq_true rfl, Nat.le_of_ble_eq_true rfl⟩) (hn := rfl) (hst := rfl) (hsum := Nat.le_of_ble_eq_true rfl) (hdg := dL_law_310) ?_
  intro v S1 h6
  obtain ⟨e92, K7, m7, hk7⟩ := hk6 v S1 h6
  refine g_aload_n (pc := 313) hX 3 rfl dL_law_313 ?_
  refine g_aload_n (pc := 314) hX 1 rfl dL_law_314 ?_
  refine g_iload_n (pc := 315) hX 0 rfl dL_law_315 ?_
  refine g_iconst (pc := 316) hX dL_law_316 ?_
  refine g_iadd (pc := 317) hX dL_law_317 ?_
  refine g_scald (pc := 318) hX hT (by omega) (by omega) (by omega) dL_law_318 ?_
  refine g_callV1 (pc := 319) (ci := 7) (As := [vI (f (i + 1).toNat)]) (st2 := [v]) hX 92 (by rw [hI.1.1]; decide) (e92.trans hI.1.2.2.1.1) rfl m7 gL_law_X7_scale (n := 1) (hw := rfl) (hrc := rfl) (hrs := rfl) (hd := by decide +kernel) (hR := ⟨Nat.le_of_ble_eq_true rfl, Nat.le_of_ble_eq_true rfl⟩) (hn := rfl) (hst := rfl) (hsum := (cat_le v)) (hdg := dL_law_319) ?_
  intro v' S2 h7
  obtain ⟨e, ⟨z, hz⟩, hS2⟩ := hk7 v' S2 h7
  obtain ⟨z2, ez, hz2⟩ := iI_ex (iI z)
  have hv : v = vI z2 := hz.trans (congrArg Value.int ez)
  have hv2 : v' = vI z2 := e.trans hv
  subst hv2
  refine g_at rfl rfl (st2 := [vI z2, vI z2]) (by rw [hv]) rfl ?_
  refine g_icmp_eq (pc := 322) (tgt := 1070) hX hz2 hz2 dL_law_322 (by decide) (fun _ => ?_) (fun q => absurd rfl q)
  exact hk S2 hS2
set_option maxHeartbeats 4000000 in
theorem law_band {w : gW} {X : gX} {b L : Nat} {f : Nat → Int} {i : Int} {S : Nat → va_E} (hX : gOK w room_1 X cL_law 8 RL wsL_law) (hT : scrT w X b L f) (hL : L ≤ 3072) (hf : ∀ j, inI (f j)) (hi : 0 ≤ i ∧ i + 6 ≤ L) (hI0 : INV w S) (hk : ∀ S', INV w S' → G w room_1 X 8 1070 [(3, vI i), (0, .ref b), (1, .ref (gw_ad w 0)), (2, .ref (gw_ad w 92))] [] S') : G w room_1 X 8 327 [(3, vI i), (0, .ref b), (1, .ref (gw_ad w 0)), (2, .ref (gw_ad w 92))] [] S := by
  obtain ⟨pc, j, ty, B, ρ, T, Tr, D, Z, pm, tm, xm, at_, wm, wh, ir, V, PV, TY, TX, MK, MM, CH, AM, WT, WK, FL, PI, s0, hI⟩ := hI0
  obtain ⟨K6, m6, hk6⟩ := two_band (l := gx_l X) hI (hf (i + 1).toNat) (hf (i + 2).toNat) (hf (i + 3).toNat)
  refine g_aload_n (pc := 327) hX 2 rfl dL_law_327 ?_
  refine g_aload_n (pc := 328) hX 1 rfl dL_law_328 ?_
  refine g_iload_n (pc := 329) hX 0 rfl dL_law_329 ?_
  refine g_iconst (pc := 330) hX dL_law_330 ?_
  refine g_iadd (pc := 331) hX dL_law_331 ?_
  refine g_scald (pc := 332) hX hT (by omega) (by omega) (by omega) dL_law_332 ?_
  refine g_aload_n (pc := 333) hX 1 rfl dL_law_333 ?_
  refine g_iload_n (pc := 334) hX 0 rfl dL_law_334 ?_
  refine g_iconst (pc := 335) hX dL_law_335 ?_
  refine g_iadd (pc := 336) hX dL_law_336 ?_
  refine g_scald (pc := 337) hX hT (by omega) (by omega) (by omega) dL_law_337 ?_
  refine g_aload_n (pc := 338) hX 1 rfl dL_law_338 ?_
  refine g_iload_n (pc := 339) hX 0 rfl dL_law_339 ?_
  refine g_iconst (pc := 340) hX dL_law_340 ?_
  refine g_iadd (pc := 341) hX dL_law_341 ?_
  refine g_scald (pc := 342) hX hT (by omega) (by omega) (by omega) dL_law_342 ?_
  refine g_callV1 (pc := 343) (ci := 6) (As := [vI (f (i + 1).toNat), vI (f (i + 2).toNat), vI (f (i + 3).toNat)]) (st2 := []) hX 0 (by rw [hI.1.1]; decide) hI.1.2.1.1.1 rfl m6 gL_law_X6_band (n := 3) (hw := rfl) (hrc := rfl) (hrs := rfl) (hd := by decide +kernel) (hR := ⟨Nat.le_of_ble_eq_true rfl, Nat.le_of_ble_eq_true rfl⟩) (hn := rfl) (hst := rfl) (hsum := Nat.le_of_ble_eq_true rfl) (hdg := dL_law_343) ?_
  intro v S1 h6
  obtain ⟨e92, K7, m7, hk7⟩ := hk6 v S1 h6
  refine g_aload_n (pc := 346) hX 3 rfl dL_law_346 ?_
  refine g_aload_n (pc := 347) hX 1 rfl dL_law_347 ?_
  refine g_iload_n (pc := 348) hX 0 rfl dL_law_348 ?_
  refine g_iconst (pc := 349) hX dL_law_349 ?_
  refine g_iadd (pc := 350) hX dL_law_350 ?_
  refine g_scald (pc := 351) hX hT (by omega) (by omega) (by omega) dL_law_351 ?_
  refine g_aload_n (pc := 352) hX 1 rfl dL_law_352 ?_
  refine g_iload_n (pc := 353) hX 0 rfl dL_law_353 ?_
  refine g_iconst (pc := 354) hX dL_law_354 ?_
  refine g_iadd (pc := 355) hX dL_law_355 ?_
  refine g_scald (pc := 356) hX hT (by omega) (by omega) (by omega) dL_law_356 ?_
  refine g_aload_n (pc := 357) hX 1 rfl dL_law_357 ?_
  refine g_iload_n (pc := 358) hX 0 rfl dL_law_358 ?_
  refine g_iconst (pc := 359) hX dL_law_359 ?_
  refine g_iadd (pc := 360) hX dL_law_360 ?_
  refine g_scald (pc := 361) hX hT (by omega) (by omega) (by omega) dL_law_361 ?_
  refine g_callV1 (pc := 362) (ci := 7) (As := [vI (f (i + 1).toNat), vI (f (i + 2).toNat), vI (f (i + 3).toNat)]) (st2 := [v]) hX 92 (by rw [hI.1.1]; decide) (e92.trans hI.1.2.2.1.1) rfl m7 gL_law_X7_band (n := 3) (hw := rfl) (hrc := rfl) (hrs := rfl) (hd := by decide +kernel) (hR := ⟨Nat.le_of_ble_eq_true rfl, Nat.le_of_ble_eq_true rfl⟩) (hn := rfl) (hst := rfl) (hsum := (cat_le v)) (hdg := dL_law_362) ?_
  intro v' S2 h7
  obtain ⟨e, ⟨z, hz⟩, hS2⟩ := hk7 v' S2 h7
  obtain ⟨z2, ez, hz2⟩ := iI_ex (iI z)
  have hv : v = vI z2 := hz.trans (congrArg Value.int ez)
  have hv2 : v' = vI z2 := e.trans hv
  subst hv2
  refine g_at rfl rfl (st2 := [vI z2, vI z2]) (by rw [hv]) rfl ?_
  refine g_icmp_eq (pc := 365) (tgt := 1070) hX hz2 hz2 dL_law_365 (by decide) (fun _ => ?_) (fun q => absurd rfl q)
  exact hk S2 hS2
set_option maxHeartbeats 4000000 in
theorem law_unband {w : gW} {X : gX} {b L : Nat} {f : Nat → Int} {i : Int} {S : Nat → va_E} (hX : gOK w room_1 X cL_law 8 RL wsL_law) (hT : scrT w X b L f) (hL : L ≤ 3072) (hf : ∀ j, inI (f j)) (hi : 0 ≤ i ∧ i + 6 ≤ L) (hI0 : INV w S) (hk : ∀ S', INV w S' → G w room_1 X 8 1070 [(3, vI i), (0, .ref b), (1, .ref (gw_ad w 0)), (2, .ref (gw_ad w 92))] [] S') : G w room_1 X 8 370 [(3, vI i), (0, .ref b), (1, .ref (gw_ad w 0)), (2, .ref (gw_ad w 92))] [] S := by
  obtain ⟨pc, j, ty, B, ρ, T, Tr, D, Z, pm, tm, xm, at_, wm, wh, ir, V, PV, TY, TX, MK, MM, CH, AM, WT, WK, FL, PI, s0, hI⟩ := hI0
  obtain ⟨K6, m6, hk6⟩ := two_unband (l := gx_l X) hI (hf (i + 1).toNat) (hf (i + 2).toNat)
  refine g_aload_n (pc := 370) hX 2 rfl dL_law_370 ?_
  refine g_aload_n (pc := 371) hX 1 rfl dL_law_371 ?_
  refine g_iload_n (pc := 372) hX 0 rfl dL_law_372 ?_
  refine g_iconst (pc := 373) hX dL_law_373 ?_
  refine g_iadd (pc := 374) hX dL_law_374 ?_
  refine g_scald (pc := 375) hX hT (by omega) (by omega) (by omega) dL_law_375 ?_
  refine g_aload_n (pc := 376) hX 1 rfl dL_law_376 ?_
  refine g_iload_n (pc := 377) hX 0 rfl dL_law_377 ?_
  refine g_iconst (pc := 378) hX dL_law_378 ?_
  refine g_iadd (pc := 379) hX dL_law_379 ?_
  refine g_scald (pc := 380) hX hT (by omega) (by omega) (by omega) dL_law_380 ?_
  refine g_callV1 (pc := 381) (ci := 6) (As := [vI (f (i + 1).toNat), vI (f (i + 2).toNat)]) (st2 := []) hX 0 (by rw [hI.1.1]; decide) hI.1.2.1.1.1 rfl m6 gL_law_X6_unband (n := 2) (hw := rfl) (hrc := rfl) (hrs := rfl) (hd := by decide +kernel) (hR := ⟨Nat.le_of_ble_eq_true rfl, Nat.le_of_ble_eq_true rfl⟩) (hn := rfl) (hst := rfl) (hsum := Nat.le_of_ble_eq_true rfl) (hdg := dL_law_381) ?_
  intro v S1 h6
  obtain ⟨e92, K7, m7, hk7⟩ := hk6 v S1 h6
  refine g_aload_n (pc := 384) hX 3 rfl dL_law_384 ?_
  refine g_aload_n (pc := 385) hX 1 rfl dL_law_385 ?_
  refine g_iload_n (pc := 386) hX 0 rfl dL_law_386 ?_
  refine g_iconst (pc := 387) hX dL_law_387 ?_
  refine g_iadd (pc := 388) hX dL_law_388 ?_
  refine g_scald (pc := 389) hX hT (by omega) (by omega) (by omega) dL_law_389 ?_
  refine g_aload_n (pc := 390) hX 1 rfl dL_law_390 ?_
  refine g_iload_n (pc := 391) hX 0 rfl dL_law_391 ?_
  refine g_iconst (pc := 392) hX dL_law_392 ?_
  refine g_iadd (pc := 393) hX dL_law_393 ?_
  refine g_scald (pc := 394) hX hT (by omega) (by omega) (by omega) dL_law_394 ?_
  refine g_callV1 (pc := 395) (ci := 7) (As := [vI (f (i + 1).toNat), vI (f (i + 2).toNat)]) (st2 := [v]) hX 92 (by rw [hI.1.1]; decide) (e92.trans hI.1.2.2.1.1) rfl m7 gL_law_X7_unband (n := 2) (hw := rfl) (hrc := rfl) (hrs := rfl) (hd := by decide +kernel) (hR := ⟨Nat.le_of_ble_eq_true rfl, Nat.le_of_ble_eq_true rfl⟩) (hn := rfl) (hst := rfl) (hsum := (cat_le v)) (hdg := dL_law_395) ?_
  intro v' S2 h7
  obtain ⟨e, ⟨z, hz⟩, hS2⟩ := hk7 v' S2 h7
  obtain ⟨z2, ez, hz2⟩ := iI_ex (iI z)
  have hv : v = vI z2 := hz.trans (congrArg Value.int ez)
  have hv2 : v' = vI z2 := e.trans hv
  subst hv2
  refine g_at rfl rfl (st2 := [vI z2, vI z2]) (by rw [hv]) rfl ?_
  refine g_icmp_eq (pc := 398) (tgt := 1070) hX hz2 hz2 dL_law_398 (by decide) (fun _ => ?_) (fun q => absurd rfl q)
  exact hk S2 hS2
set_option maxHeartbeats 4000000 in
theorem law_bandAt {w : gW} {X : gX} {b L : Nat} {f : Nat → Int} {i : Int} {S : Nat → va_E} (hX : gOK w room_1 X cL_law 8 RL wsL_law) (hT : scrT w X b L f) (hL : L ≤ 3072) (hf : ∀ j, inI (f j)) (hi : 0 ≤ i ∧ i + 6 ≤ L) (hI0 : INV w S) (hk : ∀ S', INV w S' → G w room_1 X 8 1070 [(3, vI i), (0, .ref b), (1, .ref (gw_ad w 0)), (2, .ref (gw_ad w 92))] [] S') : G w room_1 X 8 403 [(3, vI i), (0, .ref b), (1, .ref (gw_ad w 0)), (2, .ref (gw_ad w 92))] [] S := by
  obtain ⟨pc, j, ty, B, ρ, T, Tr, D, Z, pm, tm, xm, at_, wm, wh, ir, V, PV, TY, TX, MK, MM, CH, AM, WT, WK, FL, PI, s0, hI⟩ := hI0
  obtain ⟨K6, m6, hk6⟩ := two_bandAt (l := gx_l X) hI (hf (i + 1).toNat) (hf (i + 2).toNat) (hf (i + 3).toNat)
  refine g_aload_n (pc := 403) hX 2 rfl dL_law_403 ?_
  refine g_aload_n (pc := 404) hX 1 rfl dL_law_404 ?_
  refine g_iload_n (pc := 405) hX 0 rfl dL_law_405 ?_
  refine g_iconst (pc := 406) hX dL_law_406 ?_
  refine g_iadd (pc := 407) hX dL_law_407 ?_
  refine g_scald (pc := 408) hX hT (by omega) (by omega) (by omega) dL_law_408 ?_
  refine g_aload_n (pc := 409) hX 1 rfl dL_law_409 ?_
  refine g_iload_n (pc := 410) hX 0 rfl dL_law_410 ?_
  refine g_iconst (pc := 411) hX dL_law_411 ?_
  refine g_iadd (pc := 412) hX dL_law_412 ?_
  refine g_scald (pc := 413) hX hT (by omega) (by omega) (by omega) dL_law_413 ?_
  refine g_aload_n (pc := 414) hX 1 rfl dL_law_414 ?_
  refine g_iload_n (pc := 415) hX 0 rfl dL_law_415 ?_
  refine g_iconst (pc := 416) hX dL_law_416 ?_
  refine g_iadd (pc := 417) hX dL_law_417 ?_
  refine g_scald (pc := 418) hX hT (by omega) (by omega) (by omega) dL_law_418 ?_
  refine g_callV1 (pc := 419) (ci := 6) (As := [vI (f (i + 1).toNat), vI (f (i + 2).toNat), vI (f (i + 3).toNat)]) (st2 := []) hX 0 (by rw [hI.1.1]; decide) hI.1.2.1.1.1 rfl m6 gL_law_X6_bandAt (n := 3) (hw := rfl) (hrc := rfl) (hrs := rfl) (hd := by decide +kernel) (hR := ⟨Nat.le_of_ble_eq_true rfl, Nat.le_of_ble_eq_true rfl⟩) (hn := rfl) (hst := rfl) (hsum := Nat.le_of_ble_eq_true rfl) (hdg := dL_law_419) ?_
  intro v S1 h6
  obtain ⟨e92, K7, m7, hk7⟩ := hk6 v S1 h6
  refine g_aload_n (pc := 422) hX 3 rfl dL_law_422 ?_
  refine g_aload_n (pc := 423) hX 1 rfl dL_law_423 ?_
  refine g_iload_n (pc := 424) hX 0 rfl dL_law_424 ?_
  refine g_iconst (pc := 425) hX dL_law_425 ?_
  refine g_iadd (pc := 426) hX dL_law_426 ?_
  refine g_scald (pc := 427) hX hT (by omega) (by omega) (by omega) dL_law_427 ?_
  refine g_aload_n (pc := 428) hX 1 rfl dL_law_428 ?_
  refine g_iload_n (pc := 429) hX 0 rfl dL_law_429 ?_
  refine g_iconst (pc := 430) hX dL_law_430 ?_
  refine g_iadd (pc := 431) hX dL_law_431 ?_
  refine g_scald (pc := 432) hX hT (by omega) (by omega) (by omega) dL_law_432 ?_
  refine g_aload_n (pc := 433) hX 1 rfl dL_law_433 ?_
  refine g_iload_n (pc := 434) hX 0 rfl dL_law_434 ?_
  refine g_iconst (pc := 435) hX dL_law_435 ?_
  refine g_iadd (pc := 436) hX dL_law_436 ?_
  refine g_scald (pc := 437) hX hT (by omega) (by omega) (by omega) dL_law_437 ?_
  refine g_callV1 (pc := 438) (ci := 7) (As := [vI (f (i + 1).toNat), vI (f (i + 2).toNat), vI (f (i + 3).toNat)]) (st2 := [v]) hX 92 (by rw [hI.1.1]; decide) (e92.trans hI.1.2.2.1.1) rfl m7 gL_law_X7_bandAt (n := 3) (hw := rfl) (hrc := rfl) (hrs := rfl) (hd := by decide +kernel) (hR := ⟨Nat.le_of_ble_eq_true rfl, Nat.le_of_ble_eq_true rfl⟩) (hn := rfl) (hst := rfl) (hsum := (cat_le v)) (hdg := dL_law_438) ?_
  intro v' S2 h7
  obtain ⟨e, ⟨z, hz⟩, hS2⟩ := hk7 v' S2 h7
  obtain ⟨z2, ez, hz2⟩ := iI_ex (iI z)
  have hv : v = vI z2 := hz.trans (congrArg Value.int ez)
  have hv2 : v' = vI z2 := e.trans hv
  subst hv2
  refine g_at rfl rfl (st2 := [vI z2, vI z2]) (by rw [hv]) rfl ?_
  refine g_icmp_eq (pc := 441) (tgt := 1070) hX hz2 hz2 dL_law_441 (by decide) (fun _ => ?_) (fun q => absurd rfl q)
  exact hk S2 hS2
set_option maxHeartbeats 4000000 in
theorem law_setExtra {w : gW} {X : gX} {b L : Nat} {f : Nat → Int} {i : Int} {S : Nat → va_E} (hX : gOK w room_1 X cL_law 8 RL wsL_law) (hT : scrT w X b L f) (hL : L ≤ 3072) (hf : ∀ j, inI (f j)) (hi : 0 ≤ i ∧ i + 6 ≤ L) (hI0 : INV w S) (hk : ∀ S', INV w S' → G w room_1 X 8 1070 [(3, vI i), (0, .ref b), (1, .ref (gw_ad w 0)), (2, .ref (gw_ad w 92))] [] S') : G w room_1 X 8 446 [(3, vI i), (0, .ref b), (1, .ref (gw_ad w 0)), (2, .ref (gw_ad w 92))] [] S := by
  obtain ⟨pc, j, ty, B, ρ, T, Tr, D, Z, pm, tm, xm, at_, wm, wh, ir, V, PV, TY, TX, MK, MM, CH, AM, WT, WK, FL, PI, s0, hI⟩ := hI0
  obtain ⟨K6, m6, hk6⟩ := two_setExtra (l := gx_l X) hI (hf (i + 1).toNat) (hf (i + 2).toNat)
  refine g_aload_n (pc := 446) hX 2 rfl dL_law_446 ?_
  refine g_aload_n (pc := 447) hX 1 rfl dL_law_447 ?_
  refine g_iload_n (pc := 448) hX 0 rfl dL_law_448 ?_
  refine g_iconst (pc := 449) hX dL_law_449 ?_
  refine g_iadd (pc := 450) hX dL_law_450 ?_
  refine g_scald (pc := 451) hX hT (by omega) (by omega) (by omega) dL_law_451 ?_
  refine g_aload_n (pc := 452) hX 1 rfl dL_law_452 ?_
  refine g_iload_n (pc := 453) hX 0 rfl dL_law_453 ?_
  refine g_iconst (pc := 454) hX dL_law_454 ?_
  refine g_iadd (pc := 455) hX dL_law_455 ?_
  refine g_scald (pc := 456) hX hT (by omega) (by omega) (by omega) dL_law_456 ?_
  refine g_callV1 (pc := 457) (ci := 6) (As := [vI (f (i + 1).toNat), vI (f (i + 2).toNat)]) (st2 := []) hX 0 (by rw [hI.1.1]; decide) hI.1.2.1.1.1 rfl m6 gL_law_X6_setExtra (n := 2) (hw := rfl) (hrc := rfl) (hrs := rfl) (hd := by decide +kernel) (hR := ⟨Nat.le_of_ble_eq_true rfl, Nat.le_of_ble_eq_true rfl⟩) (hn := rfl) (hst := rfl) (hsum := Nat.le_of_ble_eq_true rfl) (hdg := dL_law_457) ?_
  intro v S1 h6
  obtain ⟨e92, K7, m7, hk7⟩ := hk6 v S1 h6
  refine g_aload_n (pc := 460) hX 3 rfl dL_law_460 ?_
  refine g_aload_n (pc := 461) hX 1 rfl dL_law_461 ?_
  refine g_iload_n (pc := 462) hX 0 rfl dL_law_462 ?_
  refine g_iconst (pc := 463) hX dL_law_463 ?_
  refine g_iadd (pc := 464) hX dL_law_464 ?_
  refine g_scald (pc := 465) hX hT (by omega) (by omega) (by omega) dL_law_465 ?_
  refine g_aload_n (pc := 466) hX 1 rfl dL_law_466 ?_
  refine g_iload_n (pc := 467) hX 0 rfl dL_law_467 ?_
  refine g_iconst (pc := 468) hX dL_law_468 ?_
  refine g_iadd (pc := 469) hX dL_law_469 ?_
  refine g_scald (pc := 470) hX hT (by omega) (by omega) (by omega) dL_law_470 ?_
  refine g_callV1 (pc := 471) (ci := 7) (As := [vI (f (i + 1).toNat), vI (f (i + 2).toNat)]) (st2 := [v]) hX 92 (by rw [hI.1.1]; decide) (e92.trans hI.1.2.2.1.1) rfl m7 gL_law_X7_setExtra (n := 2) (hw := rfl) (hrc := rfl) (hrs := rfl) (hd := by decide +kernel) (hR := ⟨Nat.le_of_ble_eq_true rfl, Nat.le_of_ble_eq_true rfl⟩) (hn := rfl) (hst := rfl) (hsum := (cat_le v)) (hdg := dL_law_471) ?_
  intro v' S2 h7
  obtain ⟨e, ⟨z, hz⟩, hS2⟩ := hk7 v' S2 h7
  obtain ⟨z2, ez, hz2⟩ := iI_ex (iI z)
  have hv : v = vI z2 := hz.trans (congrArg Value.int ez)
  have hv2 : v' = vI z2 := e.trans hv
  subst hv2
  refine g_at rfl rfl (st2 := [vI z2, vI z2]) (by rw [hv]) rfl ?_
  refine g_icmp_eq (pc := 474) (tgt := 1070) hX hz2 hz2 dL_law_474 (by decide) (fun _ => ?_) (fun q => absurd rfl q)
  exact hk S2 hS2
set_option maxHeartbeats 4000000 in
theorem law_type {w : gW} {X : gX} {b L : Nat} {f : Nat → Int} {i : Int} {S : Nat → va_E} (hX : gOK w room_1 X cL_law 8 RL wsL_law) (hT : scrT w X b L f) (hL : L ≤ 3072) (hf : ∀ j, inI (f j)) (hi : 0 ≤ i ∧ i + 6 ≤ L) (hI0 : INV w S) (hk : ∀ S', INV w S' → G w room_1 X 8 1070 [(3, vI i), (0, .ref b), (1, .ref (gw_ad w 0)), (2, .ref (gw_ad w 92))] [] S') : G w room_1 X 8 479 [(3, vI i), (0, .ref b), (1, .ref (gw_ad w 0)), (2, .ref (gw_ad w 92))] [] S := by
  obtain ⟨pc, j, ty, B, ρ, T, Tr, D, Z, pm, tm, xm, at_, wm, wh, ir, V, PV, TY, TX, MK, MM, CH, AM, WT, WK, FL, PI, s0, hI⟩ := hI0
  obtain ⟨K6, m6, hk6⟩ := two_type (l := gx_l X) hI (hf (i + 1).toNat)
  refine g_aload_n (pc := 479) hX 2 rfl dL_law_479 ?_
  refine g_aload_n (pc := 480) hX 1 rfl dL_law_480 ?_
  refine g_iload_n (pc := 481) hX 0 rfl dL_law_481 ?_
  refine g_iconst (pc := 482) hX dL_law_482 ?_
  refine g_iadd (pc := 483) hX dL_law_483 ?_
  refine g_scald (pc := 484) hX hT (by omega) (by omega) (by omega) dL_law_484 ?_
  refine g_callV1 (pc := 485) (ci := 6) (As := [vI (f (i + 1).toNat)]) (st2 := []) hX 0 (by rw [hI.1.1]; decide) hI.1.2.1.1.1 rfl m6 gL_law_X6_type (n := 1) (hw := rfl) (hrc := rfl) (hrs := rfl) (hd := by decide +kernel) (hR := ⟨Nat.le_of_ble_eq_true rfl, Nat.le_of_ble_eq_true rfl⟩) (hn := rfl) (hst := rfl) (hsum := Nat.le_of_ble_eq_true rfl) (hdg := dL_law_485) ?_
  intro v S1 h6
  obtain ⟨e92, K7, m7, hk7⟩ := hk6 v S1 h6
  refine g_aload_n (pc := 488) hX 3 rfl dL_law_488 ?_
  refine g_aload_n (pc := 489) hX 1 rfl dL_law_489 ?_
  refine g_iload_n (pc := 490) hX 0 rfl dL_law_490 ?_
  refine g_iconst (pc := 491) hX dL_law_491 ?_
  refine g_iadd (pc := 492) hX dL_law_492 ?_
  refine g_scald (pc := 493) hX hT (by omega) (by omega) (by omega) dL_law_493 ?_
  refine g_callV1 (pc := 494) (ci := 7) (As := [vI (f (i + 1).toNat)]) (st2 := [v]) hX 92 (by rw [hI.1.1]; decide) (e92.trans hI.1.2.2.1.1) rfl m7 gL_law_X7_type (n := 1) (hw := rfl) (hrc := rfl) (hrs := rfl) (hd := by decide +kernel) (hR := ⟨Nat.le_of_ble_eq_true rfl, Nat.le_of_ble_eq_true rfl⟩) (hn := rfl) (hst := rfl) (hsum := (cat_le v)) (hdg := dL_law_494) ?_
  intro v' S2 h7
  obtain ⟨e, ⟨z, hz⟩, hS2⟩ := hk7 v' S2 h7
  obtain ⟨z2, ez, hz2⟩ := iI_ex (iI z)
  have hv : v = vI z2 := hz.trans (congrArg Value.int ez)
  have hv2 : v' = vI z2 := e.trans hv
  subst hv2
  refine g_at rfl rfl (st2 := [vI z2, vI z2]) (by rw [hv]) rfl ?_
  refine g_icmp_eq (pc := 497) (tgt := 1070) hX hz2 hz2 dL_law_497 (by decide) (fun _ => ?_) (fun q => absurd rfl q)
  exact hk S2 hS2
set_option maxHeartbeats 4000000 in
theorem law_clear {w : gW} {X : gX} {b L : Nat} {f : Nat → Int} {i : Int} {S : Nat → va_E} (hX : gOK w room_1 X cL_law 8 RL wsL_law) (hT : scrT w X b L f) (hL : L ≤ 3072) (hf : ∀ j, inI (f j)) (hi : 0 ≤ i ∧ i + 6 ≤ L) (hI0 : INV w S) (hk : ∀ S', INV w S' → G w room_1 X 8 1070 [(3, vI i), (0, .ref b), (1, .ref (gw_ad w 0)), (2, .ref (gw_ad w 92))] [] S') : G w room_1 X 8 502 [(3, vI i), (0, .ref b), (1, .ref (gw_ad w 0)), (2, .ref (gw_ad w 92))] [] S := by
  obtain ⟨pc, j, ty, B, ρ, T, Tr, D, Z, pm, tm, xm, at_, wm, wh, ir, V, PV, TY, TX, MK, MM, CH, AM, WT, WK, FL, PI, s0, hI⟩ := hI0
  obtain ⟨K6, m6, hk6⟩ := two_clear (l := gx_l X) hI
  refine g_aload_n (pc := 502) hX 2 rfl dL_law_502 ?_
  refine g_callV1 (pc := 503) (ci := 6) (As := []) (st2 := []) hX 0 (by rw [hI.1.1]; decide) hI.1.2.1.1.1 rfl m6 gL_law_X6_clear (n := 0) (hw := rfl) (hrc := rfl) (hrs := rfl) (hd := by decide +kernel) (hR := ⟨Nat.le_of_ble_eq_true rfl, Nat.le_of_ble_eq_true rfl⟩) (hn := rfl) (hst := rfl) (hsum := Nat.le_of_ble_eq_true rfl) (hdg := dL_law_503) ?_
  intro v S1 h6
  obtain ⟨e92, K7, m7, hk7⟩ := hk6 v S1 h6
  refine g_aload_n (pc := 506) hX 3 rfl dL_law_506 ?_
  refine g_callV1 (pc := 507) (ci := 7) (As := []) (st2 := [v]) hX 92 (by rw [hI.1.1]; decide) (e92.trans hI.1.2.2.1.1) rfl m7 gL_law_X7_clear (n := 0) (hw := rfl) (hrc := rfl) (hrs := rfl) (hd := by decide +kernel) (hR := ⟨Nat.le_of_ble_eq_true rfl, Nat.le_of_ble_eq_true rfl⟩) (hn := rfl) (hst := rfl) (hsum := (cat_le v)) (hdg := dL_law_507) ?_
  intro v' S2 h7
  obtain ⟨e, ⟨z, hz⟩, hS2⟩ := hk7 v' S2 h7
  obtain ⟨z2, ez, hz2⟩ := iI_ex (iI z)
  have hv : v = vI z2 := hz.trans (congrArg Value.int ez)
  have hv2 : v' = vI z2 := e.trans hv
  subst hv2
  refine g_at rfl rfl (st2 := [vI z2, vI z2]) (by rw [hv]) rfl ?_
  refine g_icmp_eq (pc := 510) (tgt := 1070) hX hz2 hz2 dL_law_510 (by decide) (fun _ => ?_) (fun q => absurd rfl q)
  exact hk S2 hS2
set_option maxHeartbeats 4000000 in
theorem law_rule {w : gW} {X : gX} {b L : Nat} {f : Nat → Int} {i : Int} {S : Nat → va_E} (hX : gOK w room_1 X cL_law 8 RL wsL_law) (hT : scrT w X b L f) (hL : L ≤ 3072) (hf : ∀ j, inI (f j)) (hi : 0 ≤ i ∧ i + 6 ≤ L) (hI0 : INV w S) (hk : ∀ S', INV w S' → G w room_1 X 8 1070 [(3, vI i), (0, .ref b), (1, .ref (gw_ad w 0)), (2, .ref (gw_ad w 92))] [] S') : G w room_1 X 8 515 [(3, vI i), (0, .ref b), (1, .ref (gw_ad w 0)), (2, .ref (gw_ad w 92))] [] S := by
  obtain ⟨pc, j, ty, B, ρ, T, Tr, D, Z, pm, tm, xm, at_, wm, wh, ir, V, PV, TY, TX, MK, MM, CH, AM, WT, WK, FL, PI, s0, hI⟩ := hI0
  obtain ⟨K6, m6, hk6⟩ := two_rule (l := gx_l X) hI
  refine g_aload_n (pc := 515) hX 2 rfl dL_law_515 ?_
  refine g_callV1 (pc := 516) (ci := 6) (As := []) (st2 := []) hX 0 (by rw [hI.1.1]; decide) hI.1.2.1.1.1 rfl m6 gL_law_X6_rule (n := 0) (hw := rfl) (hrc := rfl) (hrs := rfl) (hd := by decide +kernel) (hR := ⟨Nat.le_of_ble_eq_true rfl, Nat.le_of_ble_eq_true rfl⟩) (hn := rfl) (hst := rfl) (hsum := Nat.le_of_ble_eq_true rfl) (hdg := dL_law_516) ?_
  intro v S1 h6
  obtain ⟨e92, K7, m7, hk7⟩ := hk6 v S1 h6
  refine g_aload_n (pc := 519) hX 3 rfl dL_law_519 ?_
  refine g_callV1 (pc := 520) (ci := 7) (As := []) (st2 := [v]) hX 92 (by rw [hI.1.1]; decide) (e92.trans hI.1.2.2.1.1) rfl m7 gL_law_X7_rule (n := 0) (hw := rfl) (hrc := rfl) (hrs := rfl) (hd := by decide +kernel) (hR := ⟨Nat.le_of_ble_eq_true rfl, Nat.le_of_ble_eq_true rfl⟩) (hn := rfl) (hst := rfl) (hsum := (cat_le v)) (hdg := dL_law_520) ?_
  intro v' S2 h7
  obtain ⟨e, ⟨z, hz⟩, hS2⟩ := hk7 v' S2 h7
  obtain ⟨z2, ez, hz2⟩ := iI_ex (iI z)
  have hv : v = vI z2 := hz.trans (congrArg Value.int ez)
  have hv2 : v' = vI z2 := e.trans hv
  subst hv2
  refine g_at rfl rfl (st2 := [vI z2, vI z2]) (by rw [hv]) rfl ?_
  refine g_icmp_eq (pc := 523) (tgt := 1070) hX hz2 hz2 dL_law_523 (by decide) (fun _ => ?_) (fun q => absurd rfl q)
  exact hk S2 hS2
set_option maxHeartbeats 4000000 in
theorem law_unrule {w : gW} {X : gX} {b L : Nat} {f : Nat → Int} {i : Int} {S : Nat → va_E} (hX : gOK w room_1 X cL_law 8 RL wsL_law) (hT : scrT w X b L f) (hL : L ≤ 3072) (hf : ∀ j, inI (f j)) (hi : 0 ≤ i ∧ i + 6 ≤ L) (hI0 : INV w S) (hk : ∀ S', INV w S' → G w room_1 X 8 1070 [(3, vI i), (0, .ref b), (1, .ref (gw_ad w 0)), (2, .ref (gw_ad w 92))] [] S') : G w room_1 X 8 528 [(3, vI i), (0, .ref b), (1, .ref (gw_ad w 0)), (2, .ref (gw_ad w 92))] [] S := by
  obtain ⟨pc, j, ty, B, ρ, T, Tr, D, Z, pm, tm, xm, at_, wm, wh, ir, V, PV, TY, TX, MK, MM, CH, AM, WT, WK, FL, PI, s0, hI⟩ := hI0
  obtain ⟨K6, m6, hk6⟩ := two_unrule (l := gx_l X) hI
  refine g_aload_n (pc := 528) hX 2 rfl dL_law_528 ?_
  refine g_callV1 (pc := 529) (ci := 6) (As := []) (st2 := []) hX 0 (by rw [hI.1.1]; decide) hI.1.2.1.1.1 rfl m6 gL_law_X6_unrule (n := 0) (hw := rfl) (hrc := rfl) (hrs := rfl) (hd := by decide +kernel) (hR := ⟨Nat.le_of_ble_eq_true rfl, Nat.le_of_ble_eq_true rfl⟩) (hn := rfl) (hst := rfl) (hsum := Nat.le_of_ble_eq_true rfl) (hdg := dL_law_529) ?_
  intro v S1 h6
  obtain ⟨e92, K7, m7, hk7⟩ := hk6 v S1 h6
  refine g_aload_n (pc := 532) hX 3 rfl dL_law_532 ?_
  refine g_callV1 (pc := 533) (ci := 7) (As := []) (st2 := [v]) hX 92 (by rw [hI.1.1]; decide) (e92.trans hI.1.2.2.1.1) rfl m7 gL_law_X7_unrule (n := 0) (hw := rfl) (hrc := rfl) (hrs := rfl) (hd := by decide +kernel) (hR := ⟨Nat.le_of_ble_eq_true rfl, Nat.le_of_ble_eq_true rfl⟩) (hn := rfl) (hst := rfl) (hsum := (cat_le v)) (hdg := dL_law_533) ?_
  intro v' S2 h7
  obtain ⟨e, ⟨z, hz⟩, hS2⟩ := hk7 v' S2 h7
  obtain ⟨z2, ez, hz2⟩ := iI_ex (iI z)
  have hv : v = vI z2 := hz.trans (congrArg Value.int ez)
  have hv2 : v' = vI z2 := e.trans hv
  subst hv2
  refine g_at rfl rfl (st2 := [vI z2, vI z2]) (by rw [hv]) rfl ?_
  refine g_icmp_eq (pc := 536) (tgt := 1070) hX hz2 hz2 dL_law_536 (by decide) (fun _ => ?_) (fun q => absurd rfl q)
  exact hk S2 hS2
set_option maxHeartbeats 4000000 in
theorem law_rules {w : gW} {X : gX} {b L : Nat} {f : Nat → Int} {i : Int} {S : Nat → va_E} (hX : gOK w room_1 X cL_law 8 RL wsL_law) (hT : scrT w X b L f) (hL : L ≤ 3072) (hf : ∀ j, inI (f j)) (hi : 0 ≤ i ∧ i + 6 ≤ L) (hI0 : INV w S) (hk : ∀ S', INV w S' → G w room_1 X 8 1070 [(3, vI i), (0, .ref b), (1, .ref (gw_ad w 0)), (2, .ref (gw_ad w 92))] [] S') : G w room_1 X 8 541 [(3, vI i), (0, .ref b), (1, .ref (gw_ad w 0)), (2, .ref (gw_ad w 92))] [] S := by
  obtain ⟨pc, j, ty, B, ρ, T, Tr, D, Z, pm, tm, xm, at_, wm, wh, ir, V, PV, TY, TX, MK, MM, CH, AM, WT, WK, FL, PI, s0, hI⟩ := hI0
  obtain ⟨K6, m6, hk6⟩ := two_rules (l := gx_l X) hI
  refine g_aload_n (pc := 541) hX 2 rfl dL_law_541 ?_
  refine g_callV1 (pc := 542) (ci := 6) (As := []) (st2 := []) hX 0 (by rw [hI.1.1]; decide) hI.1.2.1.1.1 rfl m6 gL_law_X6_rules (n := 0) (hw := rfl) (hrc := rfl) (hrs := rfl) (hd := by decide +kernel) (hR := ⟨Nat.le_of_ble_eq_true rfl, Nat.le_of_ble_eq_true rfl⟩) (hn := rfl) (hst := rfl) (hsum := Nat.le_of_ble_eq_true rfl) (hdg := dL_law_542) ?_
  intro v S1 h6
  obtain ⟨e92, K7, m7, hk7⟩ := hk6 v S1 h6
  refine g_aload_n (pc := 545) hX 3 rfl dL_law_545 ?_
  refine g_callV1 (pc := 546) (ci := 7) (As := []) (st2 := [v]) hX 92 (by rw [hI.1.1]; decide) (e92.trans hI.1.2.2.1.1) rfl m7 gL_law_X7_rules (n := 0) (hw := rfl) (hrc := rfl) (hrs := rfl) (hd := by decide +kernel) (hR := ⟨Nat.le_of_ble_eq_true rfl, Nat.le_of_ble_eq_true rfl⟩) (hn := rfl) (hst := rfl) (hsum := (cat_le v)) (hdg := dL_law_546) ?_
  intro v' S2 h7
  obtain ⟨e, ⟨z, hz⟩, hS2⟩ := hk7 v' S2 h7
  obtain ⟨z2, ez, hz2⟩ := iI_ex (iI z)
  have hv : v = vI z2 := hz.trans (congrArg Value.int ez)
  have hv2 : v' = vI z2 := e.trans hv
  subst hv2
  refine g_at rfl rfl (st2 := [vI z2, vI z2]) (by rw [hv]) rfl ?_
  refine g_icmp_eq (pc := 549) (tgt := 1070) hX hz2 hz2 dL_law_549 (by decide) (fun _ => ?_) (fun q => absurd rfl q)
  exact hk S2 hS2
set_option maxHeartbeats 4000000 in
theorem law_take {w : gW} {X : gX} {b L : Nat} {f : Nat → Int} {i : Int} {S : Nat → va_E} (hX : gOK w room_1 X cL_law 8 RL wsL_law) (hT : scrT w X b L f) (hL : L ≤ 3072) (hf : ∀ j, inI (f j)) (hi : 0 ≤ i ∧ i + 6 ≤ L) (hI0 : INV w S) (hk : ∀ S', INV w S' → G w room_1 X 8 1070 [(3, vI i), (0, .ref b), (1, .ref (gw_ad w 0)), (2, .ref (gw_ad w 92))] [] S') : G w room_1 X 8 554 [(3, vI i), (0, .ref b), (1, .ref (gw_ad w 0)), (2, .ref (gw_ad w 92))] [] S := by
  obtain ⟨pc, j, ty, B, ρ, T, Tr, D, Z, pm, tm, xm, at_, wm, wh, ir, V, PV, TY, TX, MK, MM, CH, AM, WT, WK, FL, PI, s0, hI⟩ := hI0
  obtain ⟨K6, m6, hk6⟩ := two_take (l := gx_l X) hI (hf (i + 1).toNat) (hf (i + 2).toNat) (hf (i + 3).toNat) (hf (i + 4).toNat)
  refine g_aload_n (pc := 554) hX 2 rfl dL_law_554 ?_
  refine g_aload_n (pc := 555) hX 1 rfl dL_law_555 ?_
  refine g_iload_n (pc := 556) hX 0 rfl dL_law_556 ?_
  refine g_iconst (pc := 557) hX dL_law_557 ?_
  refine g_iadd (pc := 558) hX dL_law_558 ?_
  refine g_scald (pc := 559) hX hT (by omega) (by omega) (by omega) dL_law_559 ?_
  refine g_aload_n (pc := 560) hX 1 rfl dL_law_560 ?_
  refine g_iload_n (pc := 561) hX 0 rfl dL_law_561 ?_
  refine g_iconst (pc := 562) hX dL_law_562 ?_
  refine g_iadd (pc := 563) hX dL_law_563 ?_
  refine g_scald (pc := 564) hX hT (by omega) (by omega) (by omega) dL_law_564 ?_
  refine g_aload_n (pc := 565) hX 1 rfl dL_law_565 ?_
  refine g_iload_n (pc := 566) hX 0 rfl dL_law_566 ?_
  refine g_iconst (pc := 567) hX dL_law_567 ?_
  refine g_iadd (pc := 568) hX dL_law_568 ?_
  refine g_scald (pc := 569) hX hT (by omega) (by omega) (by omega) dL_law_569 ?_
  refine g_aload_n (pc := 570) hX 1 rfl dL_law_570 ?_
  refine g_iload_n (pc := 571) hX 0 rfl dL_law_571 ?_
  refine g_iconst (pc := 572) hX dL_law_572 ?_
  refine g_iadd (pc := 573) hX dL_law_573 ?_
  refine g_scald (pc := 574) hX hT (by omega) (by omega) (by omega) dL_law_574 ?_
  refine g_callV1 (pc := 575) (ci := 6) (As := [vI (f (i + 1).toNat), vI (f (i + 2).toNat), vI (f (i + 3).toNat), vI (f (i + 4).toNat)]) (st2 := []) hX 0 (by rw [hI.1.1]; decide) hI.1.2.1.1.1 rfl m6 gL_law_X6_take (n := 4) (hw := rfl) (hrc := rfl) (hrs := rfl) (hd := by decide +kernel) (hR := ⟨Nat.le_of_ble_eq_true rfl, Nat.le_of_ble_eq_true rfl⟩) (hn := rfl) (hst := rfl) (hsum := Nat.le_of_ble_eq_true rfl) (hdg := dL_law_575) ?_
  intro v S1 h6
  obtain ⟨e92, K7, m7, hk7⟩ := hk6 v S1 h6
  refine g_aload_n (pc := 578) hX 3 rfl dL_law_578 ?_
  refine g_aload_n (pc := 579) hX 1 rfl dL_law_579 ?_
  refine g_iload_n (pc := 580) hX 0 rfl dL_law_580 ?_
  refine g_iconst (pc := 581) hX dL_law_581 ?_
  refine g_iadd (pc := 582) hX dL_law_582 ?_
  refine g_scald (pc := 583) hX hT (by omega) (by omega) (by omega) dL_law_583 ?_
  refine g_aload_n (pc := 584) hX 1 rfl dL_law_584 ?_
  refine g_iload_n (pc := 585) hX 0 rfl dL_law_585 ?_
  refine g_iconst (pc := 586) hX dL_law_586 ?_
  refine g_iadd (pc := 587) hX dL_law_587 ?_
  refine g_scald (pc := 588) hX hT (by omega) (by omega) (by omega) dL_law_588 ?_
  refine g_aload_n (pc := 589) hX 1 rfl dL_law_589 ?_
  refine g_iload_n (pc := 590) hX 0 rfl dL_law_590 ?_
  refine g_iconst (pc := 591) hX dL_law_591 ?_
  refine g_iadd (pc := 592) hX dL_law_592 ?_
  refine g_scald (pc := 593) hX hT (by omega) (by omega) (by omega) dL_law_593 ?_
  refine g_aload_n (pc := 594) hX 1 rfl dL_law_594 ?_
  refine g_iload_n (pc := 595) hX 0 rfl dL_law_595 ?_
  refine g_iconst (pc := 596) hX dL_law_596 ?_
  refine g_iadd (pc := 597) hX dL_law_597 ?_
  refine g_scald (pc := 598) hX hT (by omega) (by omega) (by omega) dL_law_598 ?_
  refine g_callV1 (pc := 599) (ci := 7) (As := [vI (f (i + 1).toNat), vI (f (i + 2).toNat), vI (f (i + 3).toNat), vI (f (i + 4).toNat)]) (st2 := [v]) hX 92 (by rw [hI.1.1]; decide) (e92.trans hI.1.2.2.1.1) rfl m7 gL_law_X7_take (n := 4) (hw := rfl) (hrc := rfl) (hrs := rfl) (hd := by decide +kernel) (hR := ⟨Nat.le_of_ble_eq_true rfl, Nat.le_of_ble_eq_true rfl⟩) (hn := rfl) (hst := rfl) (hsum := (cat_le v)) (hdg := dL_law_599) ?_
  intro v' S2 h7
  obtain ⟨e, ⟨z, hz⟩, hS2⟩ := hk7 v' S2 h7
  obtain ⟨z2, ez, hz2⟩ := iI_ex (iI z)
  have hv : v = vI z2 := hz.trans (congrArg Value.int ez)
  have hv2 : v' = vI z2 := e.trans hv
  subst hv2
  refine g_at rfl rfl (st2 := [vI z2, vI z2]) (by rw [hv]) rfl ?_
  refine g_icmp_eq (pc := 602) (tgt := 1070) hX hz2 hz2 dL_law_602 (by decide) (fun _ => ?_) (fun q => absurd rfl q)
  exact hk S2 hS2
set_option maxHeartbeats 4000000 in
theorem law_quote {w : gW} {X : gX} {b L : Nat} {f : Nat → Int} {i : Int} {S : Nat → va_E} (hX : gOK w room_1 X cL_law 8 RL wsL_law) (hT : scrT w X b L f) (hL : L ≤ 3072) (hf : ∀ j, inI (f j)) (hi : 0 ≤ i ∧ i + 6 ≤ L) (hI0 : INV w S) (hk : ∀ S', INV w S' → G w room_1 X 8 1070 [(3, vI i), (0, .ref b), (1, .ref (gw_ad w 0)), (2, .ref (gw_ad w 92))] [] S') : G w room_1 X 8 607 [(3, vI i), (0, .ref b), (1, .ref (gw_ad w 0)), (2, .ref (gw_ad w 92))] [] S := by
  obtain ⟨pc, j, ty, B, ρ, T, Tr, D, Z, pm, tm, xm, at_, wm, wh, ir, V, PV, TY, TX, MK, MM, CH, AM, WT, WK, FL, PI, s0, hI⟩ := hI0
  obtain ⟨K6, m6, hk6⟩ := two_quote (l := gx_l X) hI (hf (i + 1).toNat) (hf (i + 2).toNat) (hf (i + 3).toNat) (hf (i + 4).toNat) (hf (i + 5).toNat)
  refine g_aload_n (pc := 607) hX 2 rfl dL_law_607 ?_
  refine g_aload_n (pc := 608) hX 1 rfl dL_law_608 ?_
  refine g_iload_n (pc := 609) hX 0 rfl dL_law_609 ?_
  refine g_iconst (pc := 610) hX dL_law_610 ?_
  refine g_iadd (pc := 611) hX dL_law_611 ?_
  refine g_scald (pc := 612) hX hT (by omega) (by omega) (by omega) dL_law_612 ?_
  refine g_aload_n (pc := 613) hX 1 rfl dL_law_613 ?_
  refine g_iload_n (pc := 614) hX 0 rfl dL_law_614 ?_
  refine g_iconst (pc := 615) hX dL_law_615 ?_
  refine g_iadd (pc := 616) hX dL_law_616 ?_
  refine g_scald (pc := 617) hX hT (by omega) (by omega) (by omega) dL_law_617 ?_
  refine g_aload_n (pc := 618) hX 1 rfl dL_law_618 ?_
  refine g_iload_n (pc := 619) hX 0 rfl dL_law_619 ?_
  refine g_iconst (pc := 620) hX dL_law_620 ?_
  refine g_iadd (pc := 621) hX dL_law_621 ?_
  refine g_scald (pc := 622) hX hT (by omega) (by omega) (by omega) dL_law_622 ?_
  refine g_aload_n (pc := 623) hX 1 rfl dL_law_623 ?_
  refine g_iload_n (pc := 624) hX 0 rfl dL_law_624 ?_
  refine g_iconst (pc := 625) hX dL_law_625 ?_
  refine g_iadd (pc := 626) hX dL_law_626 ?_
  refine g_scald (pc := 627) hX hT (by omega) (by omega) (by omega) dL_law_627 ?_
  refine g_aload_n (pc := 628) hX 1 rfl dL_law_628 ?_
  refine g_iload_n (pc := 629) hX 0 rfl dL_law_629 ?_
  refine g_iconst (pc := 630) hX dL_law_630 ?_
  refine g_iadd (pc := 631) hX dL_law_631 ?_
  refine g_scald (pc := 632) hX hT (by omega) (by omega) (by omega) dL_law_632 ?_
  refine g_callV1 (pc := 633) (ci := 6) (As := [vI (f (i + 1).toNat), vI (f (i + 2).toNat), vI (f (i + 3).toNat), vI (f (i + 4).toNat), vI (f (i + 5).toNat)]) (st2 := []) hX 0 (by rw [hI.1.1]; decide) hI.1.2.1.1.1 rfl m6 gL_law_X6_quote (n := 5) (hw := rfl) (hrc := rfl) (hrs := rfl) (hd := by decide +kernel) (hR := ⟨Nat.le_of_ble_eq_true rfl, Nat.le_of_ble_eq_true rfl⟩) (hn := rfl) (hst := rfl) (hsum := Nat.le_of_ble_eq_true rfl) (hdg := dL_law_633) ?_
  intro v S1 h6
  obtain ⟨e92, K7, m7, hk7⟩ := hk6 v S1 h6
  refine g_aload_n (pc := 636) hX 3 rfl dL_law_636 ?_
  refine g_aload_n (pc := 637) hX 1 rfl dL_law_637 ?_
  refine g_iload_n (pc := 638) hX 0 rfl dL_law_638 ?_
  refine g_iconst (pc := 639) hX dL_law_639 ?_
  refine g_iadd (pc := 640) hX dL_law_640 ?_
  refine g_scald (pc := 641) hX hT (by omega) (by omega) (by omega) dL_law_641 ?_
  refine g_aload_n (pc := 642) hX 1 rfl dL_law_642 ?_
  refine g_iload_n (pc := 643) hX 0 rfl dL_law_643 ?_
  refine g_iconst (pc := 644) hX dL_law_644 ?_
  refine g_iadd (pc := 645) hX dL_law_645 ?_
  refine g_scald (pc := 646) hX hT (by omega) (by omega) (by omega) dL_law_646 ?_
  refine g_aload_n (pc := 647) hX 1 rfl dL_law_647 ?_
  refine g_iload_n (pc := 648) hX 0 rfl dL_law_648 ?_
  refine g_iconst (pc := 649) hX dL_law_649 ?_
  refine g_iadd (pc := 650) hX dL_law_650 ?_
  refine g_scald (pc := 651) hX hT (by omega) (by omega) (by omega) dL_law_651 ?_
  refine g_aload_n (pc := 652) hX 1 rfl dL_law_652 ?_
  refine g_iload_n (pc := 653) hX 0 rfl dL_law_653 ?_
  refine g_iconst (pc := 654) hX dL_law_654 ?_
  refine g_iadd (pc := 655) hX dL_law_655 ?_
  refine g_scald (pc := 656) hX hT (by omega) (by omega) (by omega) dL_law_656 ?_
  refine g_aload_n (pc := 657) hX 1 rfl dL_law_657 ?_
  refine g_iload_n (pc := 658) hX 0 rfl dL_law_658 ?_
  refine g_iconst (pc := 659) hX dL_law_659 ?_
  refine g_iadd (pc := 660) hX dL_law_660 ?_
  refine g_scald (pc := 661) hX hT (by omega) (by omega) (by omega) dL_law_661 ?_
  refine g_callV1 (pc := 662) (ci := 7) (As := [vI (f (i + 1).toNat), vI (f (i + 2).toNat), vI (f (i + 3).toNat), vI (f (i + 4).toNat), vI (f (i + 5).toNat)]) (st2 := [v]) hX 92 (by rw [hI.1.1]; decide) (e92.trans hI.1.2.2.1.1) rfl m7 gL_law_X7_quote (n := 5) (hw := rfl) (hrc := rfl) (hrs := rfl) (hd := by decide +kernel) (hR := ⟨Nat.le_of_ble_eq_true rfl, Nat.le_of_ble_eq_true rfl⟩) (hn := rfl) (hst := rfl) (hsum := (cat_le v)) (hdg := dL_law_662) ?_
  intro v' S2 h7
  obtain ⟨e, ⟨z, hz⟩, hS2⟩ := hk7 v' S2 h7
  obtain ⟨z2, ez, hz2⟩ := iI_ex (iI z)
  have hv : v = vI z2 := hz.trans (congrArg Value.int ez)
  have hv2 : v' = vI z2 := e.trans hv
  subst hv2
  refine g_at rfl rfl (st2 := [vI z2, vI z2]) (by rw [hv]) rfl ?_
  refine g_icmp_eq (pc := 665) (tgt := 1070) hX hz2 hz2 dL_law_665 (by decide) (fun _ => ?_) (fun q => absurd rfl q)
  exact hk S2 hS2
set_option maxHeartbeats 4000000 in
theorem law_parcel {w : gW} {X : gX} {b L : Nat} {f : Nat → Int} {i : Int} {S : Nat → va_E} (hX : gOK w room_1 X cL_law 8 RL wsL_law) (hT : scrT w X b L f) (hL : L ≤ 3072) (hf : ∀ j, inI (f j)) (hi : 0 ≤ i ∧ i + 6 ≤ L) (hI0 : INV w S) (hk : ∀ S', INV w S' → G w room_1 X 8 1070 [(3, vI i), (0, .ref b), (1, .ref (gw_ad w 0)), (2, .ref (gw_ad w 92))] [] S') : G w room_1 X 8 670 [(3, vI i), (0, .ref b), (1, .ref (gw_ad w 0)), (2, .ref (gw_ad w 92))] [] S := by
  obtain ⟨pc, j, ty, B, ρ, T, Tr, D, Z, pm, tm, xm, at_, wm, wh, ir, V, PV, TY, TX, MK, MM, CH, AM, WT, WK, FL, PI, s0, hI⟩ := hI0
  obtain ⟨K6, m6, hk6⟩ := two_parcel (l := gx_l X) hI (hf (i + 1).toNat) (hf (i + 2).toNat)
  refine g_aload_n (pc := 670) hX 2 rfl dL_law_670 ?_
  refine g_aload_n (pc := 671) hX 1 rfl dL_law_671 ?_
  refine g_iload_n (pc := 672) hX 0 rfl dL_law_672 ?_
  refine g_iconst (pc := 673) hX dL_law_673 ?_
  refine g_iadd (pc := 674) hX dL_law_674 ?_
  refine g_scald (pc := 675) hX hT (by omega) (by omega) (by omega) dL_law_675 ?_
  refine g_aload_n (pc := 676) hX 1 rfl dL_law_676 ?_
  refine g_iload_n (pc := 677) hX 0 rfl dL_law_677 ?_
  refine g_iconst (pc := 678) hX dL_law_678 ?_
  refine g_iadd (pc := 679) hX dL_law_679 ?_
  refine g_scald (pc := 680) hX hT (by omega) (by omega) (by omega) dL_law_680 ?_
  refine g_callV1 (pc := 681) (ci := 6) (As := [vI (f (i + 1).toNat), vI (f (i + 2).toNat)]) (st2 := []) hX 0 (by rw [hI.1.1]; decide) hI.1.2.1.1.1 rfl m6 gL_law_X6_parcel (n := 2) (hw := rfl) (hrc := rfl) (hrs := rfl) (hd := by decide +kernel) (hR := ⟨Nat.le_of_ble_eq_true rfl, Nat.le_of_ble_eq_true rfl⟩) (hn := rfl) (hst := rfl) (hsum := Nat.le_of_ble_eq_true rfl) (hdg := dL_law_681) ?_
  intro v S1 h6
  obtain ⟨e92, K7, m7, hk7⟩ := hk6 v S1 h6
  refine g_aload_n (pc := 684) hX 3 rfl dL_law_684 ?_
  refine g_aload_n (pc := 685) hX 1 rfl dL_law_685 ?_
  refine g_iload_n (pc := 686) hX 0 rfl dL_law_686 ?_
  refine g_iconst (pc := 687) hX dL_law_687 ?_
  refine g_iadd (pc := 688) hX dL_law_688 ?_
  refine g_scald (pc := 689) hX hT (by omega) (by omega) (by omega) dL_law_689 ?_
  refine g_aload_n (pc := 690) hX 1 rfl dL_law_690 ?_
  refine g_iload_n (pc := 691) hX 0 rfl dL_law_691 ?_
  refine g_iconst (pc := 692) hX dL_law_692 ?_
  refine g_iadd (pc := 693) hX dL_law_693 ?_
  refine g_scald (pc := 694) hX hT (by omega) (by omega) (by omega) dL_law_694 ?_
  refine g_callV1 (pc := 695) (ci := 7) (As := [vI (f (i + 1).toNat), vI (f (i + 2).toNat)]) (st2 := [v]) hX 92 (by rw [hI.1.1]; decide) (e92.trans hI.1.2.2.1.1) rfl m7 gL_law_X7_parcel (n := 2) (hw := rfl) (hrc := rfl) (hrs := rfl) (hd := by decide +kernel) (hR := ⟨Nat.le_of_ble_eq_true rfl, Nat.le_of_ble_eq_true rfl⟩) (hn := rfl) (hst := rfl) (hsum := (cat_le v)) (hdg := dL_law_695) ?_
  intro v' S2 h7
  obtain ⟨e, ⟨z, hz⟩, hS2⟩ := hk7 v' S2 h7
  obtain ⟨z2, ez, hz2⟩ := iI_ex (iI z)
  have hv : v = vI z2 := hz.trans (congrArg Value.int ez)
  have hv2 : v' = vI z2 := e.trans hv
  subst hv2
  refine g_at rfl rfl (st2 := [vI z2, vI z2]) (by rw [hv]) rfl ?_
  refine g_icmp_eq (pc := 698) (tgt := 1070) hX hz2 hz2 dL_law_698 (by decide) (fun _ => ?_) (fun q => absurd rfl q)
  exact hk S2 hS2
set_option maxHeartbeats 4000000 in
theorem law_why {w : gW} {X : gX} {b L : Nat} {f : Nat → Int} {i : Int} {S : Nat → va_E} (hX : gOK w room_1 X cL_law 8 RL wsL_law) (hT : scrT w X b L f) (hL : L ≤ 3072) (hf : ∀ j, inI (f j)) (hi : 0 ≤ i ∧ i + 6 ≤ L) (hI0 : INV w S) (hk : ∀ S', INV w S' → G w room_1 X 8 1070 [(3, vI i), (0, .ref b), (1, .ref (gw_ad w 0)), (2, .ref (gw_ad w 92))] [] S') : G w room_1 X 8 703 [(3, vI i), (0, .ref b), (1, .ref (gw_ad w 0)), (2, .ref (gw_ad w 92))] [] S := by
  obtain ⟨pc, j, ty, B, ρ, T, Tr, D, Z, pm, tm, xm, at_, wm, wh, ir, V, PV, TY, TX, MK, MM, CH, AM, WT, WK, FL, PI, s0, hI⟩ := hI0
  obtain ⟨K6, m6, hk6⟩ := two_why (l := gx_l X) hI (hf (i + 1).toNat) (hf (i + 2).toNat)
  refine g_aload_n (pc := 703) hX 2 rfl dL_law_703 ?_
  refine g_aload_n (pc := 704) hX 1 rfl dL_law_704 ?_
  refine g_iload_n (pc := 705) hX 0 rfl dL_law_705 ?_
  refine g_iconst (pc := 706) hX dL_law_706 ?_
  refine g_iadd (pc := 707) hX dL_law_707 ?_
  refine g_scald (pc := 708) hX hT (by omega) (by omega) (by omega) dL_law_708 ?_
  refine g_aload_n (pc := 709) hX 1 rfl dL_law_709 ?_
  refine g_iload_n (pc := 710) hX 0 rfl dL_law_710 ?_
  refine g_iconst (pc := 711) hX dL_law_711 ?_
  refine g_iadd (pc := 712) hX dL_law_712 ?_
  refine g_scald (pc := 713) hX hT (by omega) (by omega) (by omega) dL_law_713 ?_
  refine g_callV1 (pc := 714) (ci := 6) (As := [vI (f (i + 1).toNat), vI (f (i + 2).toNat)]) (st2 := []) hX 0 (by rw [hI.1.1]; decide) hI.1.2.1.1.1 rfl m6 gL_law_X6_why (n := 2) (hw := rfl) (hrc := rfl) (hrs := rfl) (hd := by decide +kernel) (hR := ⟨Nat.le_of_ble_eq_true rfl, Nat.le_of_ble_eq_true rfl⟩) (hn := rfl) (hst := rfl) (hsum := Nat.le_of_ble_eq_true rfl) (hdg := dL_law_714) ?_
  intro v S1 h6
  obtain ⟨e92, K7, m7, hk7⟩ := hk6 v S1 h6
  refine g_aload_n (pc := 717) hX 3 rfl dL_law_717 ?_
  refine g_aload_n (pc := 718) hX 1 rfl dL_law_718 ?_
  refine g_iload_n (pc := 719) hX 0 rfl dL_law_719 ?_
  refine g_iconst (pc := 720) hX dL_law_720 ?_
  refine g_iadd (pc := 721) hX dL_law_721 ?_
  refine g_scald (pc := 722) hX hT (by omega) (by omega) (by omega) dL_law_722 ?_
  refine g_aload_n (pc := 723) hX 1 rfl dL_law_723 ?_
  refine g_iload_n (pc := 724) hX 0 rfl dL_law_724 ?_
  refine g_iconst (pc := 725) hX dL_law_725 ?_
  refine g_iadd (pc := 726) hX dL_law_726 ?_
  refine g_scald (pc := 727) hX hT (by omega) (by omega) (by omega) dL_law_727 ?_
  refine g_callV1 (pc := 728) (ci := 7) (As := [vI (f (i + 1).toNat), vI (f (i + 2).toNat)]) (st2 := [v]) hX 92 (by rw [hI.1.1]; decide) (e92.trans hI.1.2.2.1.1) rfl m7 gL_law_X7_why (n := 2) (hw := rfl) (hrc := rfl) (hrs := rfl) (hd := by decide +kernel) (hR := ⟨Nat.le_of_ble_eq_true rfl, Nat.le_of_ble_eq_true rfl⟩) (hn := rfl) (hst := rfl) (hsum := (cat_le v)) (hdg := dL_law_728) ?_
  intro v' S2 h7
  obtain ⟨e, ⟨z, hz⟩, hS2⟩ := hk7 v' S2 h7
  obtain ⟨z2, ez, hz2⟩ := iI_ex (iI z)
  have hv : v = vI z2 := hz.trans (congrArg Value.int ez)
  have hv2 : v' = vI z2 := e.trans hv
  subst hv2
  refine g_at rfl rfl (st2 := [vI z2, vI z2]) (by rw [hv]) rfl ?_
  refine g_icmp_eq (pc := 731) (tgt := 1070) hX hz2 hz2 dL_law_731 (by decide) (fun _ => ?_) (fun q => absurd rfl q)
  exact hk S2 hS2
set_option maxHeartbeats 4000000 in
theorem law_parcels {w : gW} {X : gX} {b L : Nat} {f : Nat → Int} {i : Int} {S : Nat → va_E} (hX : gOK w room_1 X cL_law 8 RL wsL_law) (hT : scrT w X b L f) (hL : L ≤ 3072) (hf : ∀ j, inI (f j)) (hi : 0 ≤ i ∧ i + 6 ≤ L) (hI0 : INV w S) (hk : ∀ S', INV w S' → G w room_1 X 8 1070 [(3, vI i), (0, .ref b), (1, .ref (gw_ad w 0)), (2, .ref (gw_ad w 92))] [] S') : G w room_1 X 8 736 [(3, vI i), (0, .ref b), (1, .ref (gw_ad w 0)), (2, .ref (gw_ad w 92))] [] S := by
  obtain ⟨pc, j, ty, B, ρ, T, Tr, D, Z, pm, tm, xm, at_, wm, wh, ir, V, PV, TY, TX, MK, MM, CH, AM, WT, WK, FL, PI, s0, hI⟩ := hI0
  obtain ⟨K6, m6, hk6⟩ := two_parcels (l := gx_l X) hI
  refine g_aload_n (pc := 736) hX 2 rfl dL_law_736 ?_
  refine g_callV1 (pc := 737) (ci := 6) (As := []) (st2 := []) hX 0 (by rw [hI.1.1]; decide) hI.1.2.1.1.1 rfl m6 gL_law_X6_parcels (n := 0) (hw := rfl) (hrc := rfl) (hrs := rfl) (hd := by decide +kernel) (hR := ⟨Nat.le_of_ble_eq_true rfl, Nat.le_of_ble_eq_true rfl⟩) (hn := rfl) (hst := rfl) (hsum := Nat.le_of_ble_eq_true rfl) (hdg := dL_law_737) ?_
  intro v S1 h6
  obtain ⟨e92, K7, m7, hk7⟩ := hk6 v S1 h6
  refine g_aload_n (pc := 740) hX 3 rfl dL_law_740 ?_
  refine g_callV1 (pc := 741) (ci := 7) (As := []) (st2 := [v]) hX 92 (by rw [hI.1.1]; decide) (e92.trans hI.1.2.2.1.1) rfl m7 gL_law_X7_parcels (n := 0) (hw := rfl) (hrc := rfl) (hrs := rfl) (hd := by decide +kernel) (hR := ⟨Nat.le_of_ble_eq_true rfl, Nat.le_of_ble_eq_true rfl⟩) (hn := rfl) (hst := rfl) (hsum := (cat_le v)) (hdg := dL_law_741) ?_
  intro v' S2 h7
  obtain ⟨e, ⟨z, hz⟩, hS2⟩ := hk7 v' S2 h7
  obtain ⟨z2, ez, hz2⟩ := iI_ex (iI z)
  have hv : v = vI z2 := hz.trans (congrArg Value.int ez)
  have hv2 : v' = vI z2 := e.trans hv
  subst hv2
  refine g_at rfl rfl (st2 := [vI z2, vI z2]) (by rw [hv]) rfl ?_
  refine g_icmp_eq (pc := 744) (tgt := 1070) hX hz2 hz2 dL_law_744 (by decide) (fun _ => ?_) (fun q => absurd rfl q)
  exact hk S2 hS2
set_option maxHeartbeats 4000000 in
theorem law_dispute {w : gW} {X : gX} {b L : Nat} {f : Nat → Int} {i : Int} {S : Nat → va_E} (hX : gOK w room_1 X cL_law 8 RL wsL_law) (hT : scrT w X b L f) (hL : L ≤ 3072) (hf : ∀ j, inI (f j)) (hi : 0 ≤ i ∧ i + 6 ≤ L) (hI0 : INV w S) (hk : ∀ S', INV w S' → G w room_1 X 8 1070 [(3, vI i), (0, .ref b), (1, .ref (gw_ad w 0)), (2, .ref (gw_ad w 92))] [] S') : G w room_1 X 8 802 [(3, vI i), (0, .ref b), (1, .ref (gw_ad w 0)), (2, .ref (gw_ad w 92))] [] S := by
  obtain ⟨pc, j, ty, B, ρ, T, Tr, D, Z, pm, tm, xm, at_, wm, wh, ir, V, PV, TY, TX, MK, MM, CH, AM, WT, WK, FL, PI, s0, hI⟩ := hI0
  obtain ⟨K6, m6, hk6⟩ := two_dispute (l := gx_l X) hI (hf (i + 1).toNat) (hf (i + 2).toNat) (hf (i + 3).toNat)
  refine g_aload_n (pc := 802) hX 2 rfl dL_law_802 ?_
  refine g_aload_n (pc := 803) hX 1 rfl dL_law_803 ?_
  refine g_iload_n (pc := 804) hX 0 rfl dL_law_804 ?_
  refine g_iconst (pc := 805) hX dL_law_805 ?_
  refine g_iadd (pc := 806) hX dL_law_806 ?_
  refine g_scald (pc := 807) hX hT (by omega) (by omega) (by omega) dL_law_807 ?_
  refine g_aload_n (pc := 808) hX 1 rfl dL_law_808 ?_
  refine g_iload_n (pc := 809) hX 0 rfl dL_law_809 ?_
  refine g_iconst (pc := 810) hX dL_law_810 ?_
  refine g_iadd (pc := 811) hX dL_law_811 ?_
  refine g_scald (pc := 812) hX hT (by omega) (by omega) (by omega) dL_law_812 ?_
  refine g_aload_n (pc := 813) hX 1 rfl dL_law_813 ?_
  refine g_iload_n (pc := 814) hX 0 rfl dL_law_814 ?_
  refine g_iconst (pc := 815) hX dL_law_815 ?_
  refine g_iadd (pc := 816) hX dL_law_816 ?_
  refine g_scald (pc := 817) hX hT (by omega) (by omega) (by omega) dL_law_817 ?_
  refine g_callV1 (pc := 818) (ci := 6) (As := [vI (f (i + 1).toNat), vI (f (i + 2).toNat), vI (f (i + 3).toNat)]) (st2 := []) hX 0 (by rw [hI.1.1]; decide) hI.1.2.1.1.1 rfl m6 gL_law_X6_dispute (n := 3) (hw := rfl) (hrc := rfl) (hrs := rfl) (hd := by decide +kernel) (hR := ⟨Nat.le_of_ble_eq_true rfl, Nat.le_of_ble_eq_true rfl⟩) (hn := rfl) (hst := rfl) (hsum := Nat.le_of_ble_eq_true rfl) (hdg := dL_law_818) ?_
  intro v S1 h6
  obtain ⟨e92, K7, m7, hk7⟩ := hk6 v S1 h6
  refine g_aload_n (pc := 821) hX 3 rfl dL_law_821 ?_
  refine g_aload_n (pc := 822) hX 1 rfl dL_law_822 ?_
  refine g_iload_n (pc := 823) hX 0 rfl dL_law_823 ?_
  refine g_iconst (pc := 824) hX dL_law_824 ?_
  refine g_iadd (pc := 825) hX dL_law_825 ?_
  refine g_scald (pc := 826) hX hT (by omega) (by omega) (by omega) dL_law_826 ?_
  refine g_aload_n (pc := 827) hX 1 rfl dL_law_827 ?_
  refine g_iload_n (pc := 828) hX 0 rfl dL_law_828 ?_
  refine g_iconst (pc := 829) hX dL_law_829 ?_
  refine g_iadd (pc := 830) hX dL_law_830 ?_
  refine g_scald (pc := 831) hX hT (by omega) (by omega) (by omega) dL_law_831 ?_
  refine g_aload_n (pc := 832) hX 1 rfl dL_law_832 ?_
  refine g_iload_n (pc := 833) hX 0 rfl dL_law_833 ?_
  refine g_iconst (pc := 834) hX dL_law_834 ?_
  refine g_iadd (pc := 835) hX dL_law_835 ?_
  refine g_scald (pc := 836) hX hT (by omega) (by omega) (by omega) dL_law_836 ?_
  refine g_callV1 (pc := 837) (ci := 7) (As := [vI (f (i + 1).toNat), vI (f (i + 2).toNat), vI (f (i + 3).toNat)]) (st2 := [v]) hX 92 (by rw [hI.1.1]; decide) (e92.trans hI.1.2.2.1.1) rfl m7 gL_law_X7_dispute (n := 3) (hw := rfl) (hrc := rfl) (hrs := rfl) (hd := by decide +kernel) (hR := ⟨Nat.le_of_ble_eq_true rfl, Nat.le_of_ble_eq_true rfl⟩) (hn := rfl) (hst := rfl) (hsum := (cat_le v)) (hdg := dL_law_837) ?_
  intro v' S2 h7
  obtain ⟨e, ⟨z, hz⟩, hS2⟩ := hk7 v' S2 h7
  obtain ⟨z2, ez, hz2⟩ := iI_ex (iI z)
  have hv : v = vI z2 := hz.trans (congrArg Value.int ez)
  have hv2 : v' = vI z2 := e.trans hv
  subst hv2
  refine g_at rfl rfl (st2 := [vI z2, vI z2]) (by rw [hv]) rfl ?_
  refine g_icmp_eq (pc := 840) (tgt := 1070) hX hz2 hz2 dL_law_840 (by decide) (fun _ => ?_) (fun q => absurd rfl q)
  exact hk S2 hS2
set_option maxHeartbeats 4000000 in
theorem law_settle {w : gW} {X : gX} {b L : Nat} {f : Nat → Int} {i : Int} {S : Nat → va_E} (hX : gOK w room_1 X cL_law 8 RL wsL_law) (hT : scrT w X b L f) (hL : L ≤ 3072) (hf : ∀ j, inI (f j)) (hi : 0 ≤ i ∧ i + 6 ≤ L) (hI0 : INV w S) (hk : ∀ S', INV w S' → G w room_1 X 8 1070 [(3, vI i), (0, .ref b), (1, .ref (gw_ad w 0)), (2, .ref (gw_ad w 92))] [] S') : G w room_1 X 8 845 [(3, vI i), (0, .ref b), (1, .ref (gw_ad w 0)), (2, .ref (gw_ad w 92))] [] S := by
  obtain ⟨pc, j, ty, B, ρ, T, Tr, D, Z, pm, tm, xm, at_, wm, wh, ir, V, PV, TY, TX, MK, MM, CH, AM, WT, WK, FL, PI, s0, hI⟩ := hI0
  by_cases hc : f (i + 2).toNat = 0
  · obtain ⟨K6, m6, hk6⟩ := two_settle (l := gx_l X) hI (hf (i + 1).toNat) (a := false)
    refine g_aload_n (pc := 845) hX 2 rfl dL_law_845 ?_
    refine g_aload_n (pc := 846) hX 1 rfl dL_law_846 ?_
    refine g_iload_n (pc := 847) hX 0 rfl dL_law_847 ?_
    refine g_iconst (pc := 848) hX dL_law_848 ?_
    refine g_iadd (pc := 849) hX dL_law_849 ?_
    refine g_scald (pc := 850) hX hT (by omega) (by omega) (by omega) dL_law_850 ?_
    refine g_aload_n (pc := 851) hX 1 rfl dL_law_851 ?_
    refine g_iload_n (pc := 852) hX 0 rfl dL_law_852 ?_
    refine g_iconst (pc := 853) hX dL_law_853 ?_
    refine g_iadd (pc := 854) hX dL_law_854 ?_
    refine g_scald (pc := 855) hX hT (by omega) (by omega) (by omega) dL_law_855 ?_
    refine g_if_eq (pc := 856) (tgt := 863) hX (hf _) dL_law_856 (by decide) (fun _ => ?_) (fun q => absurd hc q)
    refine g_iconst (pc := 863) hX dL_law_863 ?_
    refine g_at rfl rfl (st2 := [vI (bz false), vI (f (i + 1).toNat), .ref (gw_ad w 0)]) rfl rfl ?_
    refine g_callV1 (pc := 864) (ci := 6) (As := [vI (f (i + 1).toNat), vI (bz false)]) (st2 := []) hX 0 (by rw [hI.1.1]; decide) hI.1.2.1.1.1 rfl m6 gL_law_X6_settle (n := 2) (hw := rfl) (hrc := rfl) (hrs := rfl) (hd := by decide +kernel) (hR := ⟨Nat.le_of_ble_eq_true rfl, Nat.le_of_ble_eq_true rfl⟩) (hn := rfl) (hst := rfl) (hsum := Nat.le_of_ble_eq_true rfl) (hdg := dL_law_864) ?_
    intro v S1 h6
    obtain ⟨e92, K7, m7, hk7⟩ := hk6 v S1 h6
    refine g_aload_n (pc := 867) hX 3 rfl dL_law_867 ?_
    refine g_aload_n (pc := 868) hX 1 rfl dL_law_868 ?_
    refine g_iload_n (pc := 869) hX 0 rfl dL_law_869 ?_
    refine g_iconst (pc := 870) hX dL_law_870 ?_
    refine g_iadd (pc := 871) hX dL_law_871 ?_
    refine g_scald (pc := 872) hX hT (by omega) (by omega) (by omega) dL_law_872 ?_
    refine g_aload_n (pc := 873) hX 1 rfl dL_law_873 ?_
    refine g_iload_n (pc := 874) hX 0 rfl dL_law_874 ?_
    refine g_iconst (pc := 875) hX dL_law_875 ?_
    refine g_iadd (pc := 876) hX dL_law_876 ?_
    refine g_scald (pc := 877) hX hT (by omega) (by omega) (by omega) dL_law_877 ?_
    refine g_if_eq (pc := 878) (tgt := 885) hX (hf _) dL_law_878 (by decide) (fun _ => ?_) (fun q => absurd hc q)
    refine g_iconst (pc := 885) hX dL_law_885 ?_
    refine g_at rfl rfl (st2 := [vI (bz false), vI (f (i + 1).toNat), .ref (gw_ad w 92), v]) rfl rfl ?_
    refine g_callV1 (pc := 886) (ci := 7) (As := [vI (f (i + 1).toNat), vI (bz false)]) (st2 := [v]) hX 92 (by rw [hI.1.1]; decide) (e92.trans hI.1.2.2.1.1) rfl m7 gL_law_X7_settle (n := 2) (hw := rfl) (hrc := rfl) (hrs := rfl) (hd := by decide +kernel) (hR := ⟨Nat.le_of_ble_eq_true rfl, Nat.le_of_ble_eq_true rfl⟩) (hn := rfl) (hst := rfl) (hsum := (cat_le v)) (hdg := dL_law_886) ?_
    intro v' S2 h7
    obtain ⟨e, ⟨z, hz⟩, hS2⟩ := hk7 v' S2 h7
    obtain ⟨z2, ez, hz2⟩ := iI_ex (iI z)
    have hv : v = vI z2 := hz.trans (congrArg Value.int ez)
    have hv2 : v' = vI z2 := e.trans hv
    subst hv2
    refine g_at rfl rfl (st2 := [vI z2, vI z2]) (by rw [hv]) rfl ?_
    refine g_icmp_eq (pc := 889) (tgt := 1070) hX hz2 hz2 dL_law_889 (by decide) (fun _ => ?_) (fun q => absurd rfl q)
    exact hk S2 hS2
  · obtain ⟨K6, m6, hk6⟩ := two_settle (l := gx_l X) hI (hf (i + 1).toNat) (a := true)
    refine g_aload_n (pc := 845) hX 2 rfl dL_law_845 ?_
    refine g_aload_n (pc := 846) hX 1 rfl dL_law_846 ?_
    refine g_iload_n (pc := 847) hX 0 rfl dL_law_847 ?_
    refine g_iconst (pc := 848) hX dL_law_848 ?_
    refine g_iadd (pc := 849) hX dL_law_849 ?_
    refine g_scald (pc := 850) hX hT (by omega) (by omega) (by omega) dL_law_850 ?_
    refine g_aload_n (pc := 851) hX 1 rfl dL_law_851 ?_
    refine g_iload_n (pc := 852) hX 0 rfl dL_law_852 ?_
    refine g_iconst (pc := 853) hX dL_law_853 ?_
    refine g_iadd (pc := 854) hX dL_law_854 ?_
    refine g_scald (pc := 855) hX hT (by omega) (by omega) (by omega) dL_law_855 ?_
    refine g_if_eq (pc := 856) (tgt := 863) hX (hf _) dL_law_856 (by decide) (fun q => absurd q hc) (fun _ => ?_)
    refine g_iconst (pc := 859) hX dL_law_859 ?_
    refine g_goto (pc := 860) (tgt := 864) hX dL_law_860 (by decide) ?_
    refine g_at rfl rfl (st2 := [vI (bz true), vI (f (i + 1).toNat), .ref (gw_ad w 0)]) rfl rfl ?_
    refine g_callV1 (pc := 864) (ci := 6) (As := [vI (f (i + 1).toNat), vI (bz true)]) (st2 := []) hX 0 (by rw [hI.1.1]; decide) hI.1.2.1.1.1 rfl m6 gL_law_X6_settle (n := 2) (hw := rfl) (hrc := rfl) (hrs := rfl) (hd := by decide +kernel) (hR := ⟨Nat.le_of_ble_eq_true rfl, Nat.le_of_ble_eq_true rfl⟩) (hn := rfl) (hst := rfl) (hsum := Nat.le_of_ble_eq_true rfl) (hdg := dL_law_864) ?_
    intro v S1 h6
    obtain ⟨e92, K7, m7, hk7⟩ := hk6 v S1 h6
    refine g_aload_n (pc := 867) hX 3 rfl dL_law_867 ?_
    refine g_aload_n (pc := 868) hX 1 rfl dL_law_868 ?_
    refine g_iload_n (pc := 869) hX 0 rfl dL_law_869 ?_
    refine g_iconst (pc := 870) hX dL_law_870 ?_
    refine g_iadd (pc := 871) hX dL_law_871 ?_
    refine g_scald (pc := 872) hX hT (by omega) (by omega) (by omega) dL_law_872 ?_
    refine g_aload_n (pc := 873) hX 1 rfl dL_law_873 ?_
    refine g_iload_n (pc := 874) hX 0 rfl dL_law_874 ?_
    refine g_iconst (pc := 875) hX dL_law_875 ?_
    refine g_iadd (pc := 876) hX dL_law_876 ?_
    refine g_scald (pc := 877) hX hT (by omega) (by omega) (by omega) dL_law_877 ?_
    refine g_if_eq (pc := 878) (tgt := 885) hX (hf _) dL_law_878 (by decide) (fun q => absurd q hc) (fun _ => ?_)
    refine g_iconst (pc := 881) hX dL_law_881 ?_
    refine g_goto (pc := 882) (tgt := 886) hX dL_law_882 (by decide) ?_
    refine g_at rfl rfl (st2 := [vI (bz true), vI (f (i + 1).toNat), .ref (gw_ad w 92), v]) rfl rfl ?_
    refine g_callV1 (pc := 886) (ci := 7) (As := [vI (f (i + 1).toNat), vI (bz true)]) (st2 := [v]) hX 92 (by rw [hI.1.1]; decide) (e92.trans hI.1.2.2.1.1) rfl m7 gL_law_X7_settle (n := 2) (hw := rfl) (hrc := rfl) (hrs := rfl) (hd := by decide +kernel) (hR := ⟨Nat.le_of_ble_eq_true rfl, Nat.le_of_ble_eq_true rfl⟩) (hn := rfl) (hst := rfl) (hsum := (cat_le v)) (hdg := dL_law_886) ?_
    intro v' S2 h7
    obtain ⟨e, ⟨z, hz⟩, hS2⟩ := hk7 v' S2 h7
    obtain ⟨z2, ez, hz2⟩ := iI_ex (iI z)
    have hv : v = vI z2 := hz.trans (congrArg Value.int ez)
    have hv2 : v' = vI z2 := e.trans hv
    subst hv2
    refine g_at rfl rfl (st2 := [vI z2, vI z2]) (by rw [hv]) rfl ?_
    refine g_icmp_eq (pc := 889) (tgt := 1070) hX hz2 hz2 dL_law_889 (by decide) (fun _ => ?_) (fun q => absurd rfl q)
    exact hk S2 hS2
set_option maxHeartbeats 4000000 in
theorem law_note {w : gW} {X : gX} {b L : Nat} {f : Nat → Int} {i : Int} {S : Nat → va_E} (hX : gOK w room_1 X cL_law 8 RL wsL_law) (hT : scrT w X b L f) (hL : L ≤ 3072) (hf : ∀ j, inI (f j)) (hi : 0 ≤ i ∧ i + 6 ≤ L) (hI0 : INV w S) (hk : ∀ S', INV w S' → G w room_1 X 8 1070 [(3, vI i), (0, .ref b), (1, .ref (gw_ad w 0)), (2, .ref (gw_ad w 92))] [] S') : G w room_1 X 8 894 [(3, vI i), (0, .ref b), (1, .ref (gw_ad w 0)), (2, .ref (gw_ad w 92))] [] S := by
  obtain ⟨pc, j, ty, B, ρ, T, Tr, D, Z, pm, tm, xm, at_, wm, wh, ir, V, PV, TY, TX, MK, MM, CH, AM, WT, WK, FL, PI, s0, hI⟩ := hI0
  obtain ⟨K6, m6, hk6⟩ := two_note (l := gx_l X) hI (hf (i + 1).toNat) (hf (i + 2).toNat)
  refine g_aload_n (pc := 894) hX 2 rfl dL_law_894 ?_
  refine g_aload_n (pc := 895) hX 1 rfl dL_law_895 ?_
  refine g_iload_n (pc := 896) hX 0 rfl dL_law_896 ?_
  refine g_iconst (pc := 897) hX dL_law_897 ?_
  refine g_iadd (pc := 898) hX dL_law_898 ?_
  refine g_scald (pc := 899) hX hT (by omega) (by omega) (by omega) dL_law_899 ?_
  refine g_aload_n (pc := 900) hX 1 rfl dL_law_900 ?_
  refine g_iload_n (pc := 901) hX 0 rfl dL_law_901 ?_
  refine g_iconst (pc := 902) hX dL_law_902 ?_
  refine g_iadd (pc := 903) hX dL_law_903 ?_
  refine g_scald (pc := 904) hX hT (by omega) (by omega) (by omega) dL_law_904 ?_
  refine g_callV1 (pc := 905) (ci := 6) (As := [vI (f (i + 1).toNat), vI (f (i + 2).toNat)]) (st2 := []) hX 0 (by rw [hI.1.1]; decide) hI.1.2.1.1.1 rfl m6 gL_law_X6_note (n := 2) (hw := rfl) (hrc := rfl) (hrs := rfl) (hd := by decide +kernel) (hR := ⟨Nat.le_of_ble_eq_true rfl, Nat.le_of_ble_eq_true rfl⟩) (hn := rfl) (hst := rfl) (hsum := Nat.le_of_ble_eq_true rfl) (hdg := dL_law_905) ?_
  intro v S1 h6
  obtain ⟨e92, K7, m7, hk7⟩ := hk6 v S1 h6
  refine g_aload_n (pc := 908) hX 3 rfl dL_law_908 ?_
  refine g_aload_n (pc := 909) hX 1 rfl dL_law_909 ?_
  refine g_iload_n (pc := 910) hX 0 rfl dL_law_910 ?_
  refine g_iconst (pc := 911) hX dL_law_911 ?_
  refine g_iadd (pc := 912) hX dL_law_912 ?_
  refine g_scald (pc := 913) hX hT (by omega) (by omega) (by omega) dL_law_913 ?_
  refine g_aload_n (pc := 914) hX 1 rfl dL_law_914 ?_
  refine g_iload_n (pc := 915) hX 0 rfl dL_law_915 ?_
  refine g_iconst (pc := 916) hX dL_law_916 ?_
  refine g_iadd (pc := 917) hX dL_law_917 ?_
  refine g_scald (pc := 918) hX hT (by omega) (by omega) (by omega) dL_law_918 ?_
  refine g_callV1 (pc := 919) (ci := 7) (As := [vI (f (i + 1).toNat), vI (f (i + 2).toNat)]) (st2 := [v]) hX 92 (by rw [hI.1.1]; decide) (e92.trans hI.1.2.2.1.1) rfl m7 gL_law_X7_note (n := 2) (hw := rfl) (hrc := rfl) (hrs := rfl) (hd := by decide +kernel) (hR := ⟨Nat.le_of_ble_eq_true rfl, Nat.le_of_ble_eq_true rfl⟩) (hn := rfl) (hst := rfl) (hsum := (cat_le v)) (hdg := dL_law_919) ?_
  intro v' S2 h7
  obtain ⟨e, ⟨z, hz⟩, hS2⟩ := hk7 v' S2 h7
  obtain ⟨z2, ez, hz2⟩ := iI_ex (iI z)
  have hv : v = vI z2 := hz.trans (congrArg Value.int ez)
  have hv2 : v' = vI z2 := e.trans hv
  subst hv2
  refine g_at rfl rfl (st2 := [vI z2, vI z2]) (by rw [hv]) rfl ?_
  refine g_icmp_eq (pc := 922) (tgt := 1070) hX hz2 hz2 dL_law_922 (by decide) (fun _ => ?_) (fun q => absurd rfl q)
  exact hk S2 hS2
set_option maxHeartbeats 4000000 in
theorem law_notes {w : gW} {X : gX} {b L : Nat} {f : Nat → Int} {i : Int} {S : Nat → va_E} (hX : gOK w room_1 X cL_law 8 RL wsL_law) (hT : scrT w X b L f) (hL : L ≤ 3072) (hf : ∀ j, inI (f j)) (hi : 0 ≤ i ∧ i + 6 ≤ L) (hI0 : INV w S) (hk : ∀ S', INV w S' → G w room_1 X 8 1070 [(3, vI i), (0, .ref b), (1, .ref (gw_ad w 0)), (2, .ref (gw_ad w 92))] [] S') : G w room_1 X 8 927 [(3, vI i), (0, .ref b), (1, .ref (gw_ad w 0)), (2, .ref (gw_ad w 92))] [] S := by
  obtain ⟨pc, j, ty, B, ρ, T, Tr, D, Z, pm, tm, xm, at_, wm, wh, ir, V, PV, TY, TX, MK, MM, CH, AM, WT, WK, FL, PI, s0, hI⟩ := hI0
  obtain ⟨K6, m6, hk6⟩ := two_notes (l := gx_l X) hI
  refine g_aload_n (pc := 927) hX 2 rfl dL_law_927 ?_
  refine g_callV1 (pc := 928) (ci := 6) (As := []) (st2 := []) hX 0 (by rw [hI.1.1]; decide) hI.1.2.1.1.1 rfl m6 gL_law_X6_notes (n := 0) (hw := rfl) (hrc := rfl) (hrs := rfl) (hd := by decide +kernel) (hR := ⟨Nat.le_of_ble_eq_true rfl, Nat.le_of_ble_eq_true rfl⟩) (hn := rfl) (hst := rfl) (hsum := Nat.le_of_ble_eq_true rfl) (hdg := dL_law_928) ?_
  intro v S1 h6
  obtain ⟨e92, K7, m7, hk7⟩ := hk6 v S1 h6
  refine g_aload_n (pc := 931) hX 3 rfl dL_law_931 ?_
  refine g_callV1 (pc := 932) (ci := 7) (As := []) (st2 := [v]) hX 92 (by rw [hI.1.1]; decide) (e92.trans hI.1.2.2.1.1) rfl m7 gL_law_X7_notes (n := 0) (hw := rfl) (hrc := rfl) (hrs := rfl) (hd := by decide +kernel) (hR := ⟨Nat.le_of_ble_eq_true rfl, Nat.le_of_ble_eq_true rfl⟩) (hn := rfl) (hst := rfl) (hsum := (cat_le v)) (hdg := dL_law_932) ?_
  intro v' S2 h7
  obtain ⟨e, ⟨z, hz⟩, hS2⟩ := hk7 v' S2 h7
  obtain ⟨z2, ez, hz2⟩ := iI_ex (iI z)
  have hv : v = vI z2 := hz.trans (congrArg Value.int ez)
  have hv2 : v' = vI z2 := e.trans hv
  subst hv2
  refine g_at rfl rfl (st2 := [vI z2, vI z2]) (by rw [hv]) rfl ?_
  refine g_icmp_eq (pc := 935) (tgt := 1070) hX hz2 hz2 dL_law_935 (by decide) (fun _ => ?_) (fun q => absurd rfl q)
  exact hk S2 hS2
set_option maxHeartbeats 4000000 in
theorem law_sum {w : gW} {X : gX} {b L : Nat} {f : Nat → Int} {i : Int} {S : Nat → va_E} (hX : gOK w room_1 X cL_law 8 RL wsL_law) (hT : scrT w X b L f) (hL : L ≤ 3072) (hf : ∀ j, inI (f j)) (hi : 0 ≤ i ∧ i + 6 ≤ L) (hI0 : INV w S) (hk : ∀ S', INV w S' → G w room_1 X 8 1070 [(3, vI i), (0, .ref b), (1, .ref (gw_ad w 0)), (2, .ref (gw_ad w 92))] [] S') : G w room_1 X 8 940 [(3, vI i), (0, .ref b), (1, .ref (gw_ad w 0)), (2, .ref (gw_ad w 92))] [] S := by
  obtain ⟨pc, j, ty, B, ρ, T, Tr, D, Z, pm, tm, xm, at_, wm, wh, ir, V, PV, TY, TX, MK, MM, CH, AM, WT, WK, FL, PI, s0, hI⟩ := hI0
  obtain ⟨K6, m6, hk6⟩ := two_sum (l := gx_l X) hI (hf (i + 1).toNat)
  refine g_aload_n (pc := 940) hX 2 rfl dL_law_940 ?_
  refine g_aload_n (pc := 941) hX 1 rfl dL_law_941 ?_
  refine g_iload_n (pc := 942) hX 0 rfl dL_law_942 ?_
  refine g_iconst (pc := 943) hX dL_law_943 ?_
  refine g_iadd (pc := 944) hX dL_law_944 ?_
  refine g_scald (pc := 945) hX hT (by omega) (by omega) (by omega) dL_law_945 ?_
  refine g_callV1 (pc := 946) (ci := 6) (As := [vI (f (i + 1).toNat)]) (st2 := []) hX 0 (by rw [hI.1.1]; decide) hI.1.2.1.1.1 rfl m6 gL_law_X6_sum (n := 1) (hw := rfl) (hrc := rfl) (hrs := rfl) (hd := by decide +kernel) (hR := ⟨Nat.le_of_ble_eq_true rfl, Nat.le_of_ble_eq_true rfl⟩) (hn := rfl) (hst := rfl) (hsum := Nat.le_of_ble_eq_true rfl) (hdg := dL_law_946) ?_
  intro v S1 h6
  obtain ⟨e92, K7, m7, hk7⟩ := hk6 v S1 h6
  refine g_aload_n (pc := 949) hX 3 rfl dL_law_949 ?_
  refine g_aload_n (pc := 950) hX 1 rfl dL_law_950 ?_
  refine g_iload_n (pc := 951) hX 0 rfl dL_law_951 ?_
  refine g_iconst (pc := 952) hX dL_law_952 ?_
  refine g_iadd (pc := 953) hX dL_law_953 ?_
  refine g_scald (pc := 954) hX hT (by omega) (by omega) (by omega) dL_law_954 ?_
  refine g_callV1 (pc := 955) (ci := 7) (As := [vI (f (i + 1).toNat)]) (st2 := [v]) hX 92 (by rw [hI.1.1]; decide) (e92.trans hI.1.2.2.1.1) rfl m7 gL_law_X7_sum (n := 1) (hw := rfl) (hrc := rfl) (hrs := rfl) (hd := by decide +kernel) (hR := ⟨Nat.le_of_ble_eq_true rfl, Nat.le_of_ble_eq_true rfl⟩) (hn := rfl) (hst := rfl) (hsum := (cat_le v)) (hdg := dL_law_955) ?_
  intro v' S2 h7
  obtain ⟨e, ⟨z, hz⟩, hS2⟩ := hk7 v' S2 h7
  have hv : v = vL (lI z).toInt := hz.trans (congrArg Value.long (lI_eta (lI z)).symm)
  have hv2 : v' = vL (lI z).toInt := e.trans hv
  subst hv2
  refine g_at rfl rfl (st2 := [vL (lI z).toInt, vL (lI z).toInt]) (by rw [hv]) rfl ?_
  refine g_lcmp_eq (pc := 958) (tgt := 1070) hX (inL_of _) (inL_of _) dL_law_958 dL_law_959 (by decide) (fun _ => ?_) (fun q => absurd rfl q)
  exact hk S2 hS2
set_option maxHeartbeats 4000000 in
theorem law_lighter {w : gW} {X : gX} {b L : Nat} {f : Nat → Int} {i : Int} {S : Nat → va_E} (hX : gOK w room_1 X cL_law 8 RL wsL_law) (hT : scrT w X b L f) (hL : L ≤ 3072) (hf : ∀ j, inI (f j)) (hi : 0 ≤ i ∧ i + 6 ≤ L) (hI0 : INV w S) (hk : ∀ S', INV w S' → G w room_1 X 8 1070 [(3, vI i), (0, .ref b), (1, .ref (gw_ad w 0)), (2, .ref (gw_ad w 92))] [] S') : G w room_1 X 8 964 [(3, vI i), (0, .ref b), (1, .ref (gw_ad w 0)), (2, .ref (gw_ad w 92))] [] S := by
  obtain ⟨pc, j, ty, B, ρ, T, Tr, D, Z, pm, tm, xm, at_, wm, wh, ir, V, PV, TY, TX, MK, MM, CH, AM, WT, WK, FL, PI, s0, hI⟩ := hI0
  obtain ⟨K6, m6, hk6⟩ := two_lighter (l := gx_l X) hI (hf (i + 1).toNat)
  refine g_aload_n (pc := 964) hX 2 rfl dL_law_964 ?_
  refine g_aload_n (pc := 965) hX 1 rfl dL_law_965 ?_
  refine g_iload_n (pc := 966) hX 0 rfl dL_law_966 ?_
  refine g_iconst (pc := 967) hX dL_law_967 ?_
  refine g_iadd (pc := 968) hX dL_law_968 ?_
  refine g_scald (pc := 969) hX hT (by omega) (by omega) (by omega) dL_law_969 ?_
  refine g_callV1 (pc := 970) (ci := 6) (As := [vI (f (i + 1).toNat)]) (st2 := []) hX 0 (by rw [hI.1.1]; decide) hI.1.2.1.1.1 rfl m6 gL_law_X6_lighter (n := 1) (hw := rfl) (hrc := rfl) (hrs := rfl) (hd := by decide +kernel) (hR := ⟨Nat.le_of_ble_eq_true rfl, Nat.le_of_ble_eq_true rfl⟩) (hn := rfl) (hst := rfl) (hsum := Nat.le_of_ble_eq_true rfl) (hdg := dL_law_970) ?_
  intro v S1 h6
  obtain ⟨e92, K7, m7, hk7⟩ := hk6 v S1 h6
  refine g_aload_n (pc := 973) hX 3 rfl dL_law_973 ?_
  refine g_aload_n (pc := 974) hX 1 rfl dL_law_974 ?_
  refine g_iload_n (pc := 975) hX 0 rfl dL_law_975 ?_
  refine g_iconst (pc := 976) hX dL_law_976 ?_
  refine g_iadd (pc := 977) hX dL_law_977 ?_
  refine g_scald (pc := 978) hX hT (by omega) (by omega) (by omega) dL_law_978 ?_
  refine g_callV1 (pc := 979) (ci := 7) (As := [vI (f (i + 1).toNat)]) (st2 := [v]) hX 92 (by rw [hI.1.1]; decide) (e92.trans hI.1.2.2.1.1) rfl m7 gL_law_X7_lighter (n := 1) (hw := rfl) (hrc := rfl) (hrs := rfl) (hd := by decide +kernel) (hR := ⟨Nat.le_of_ble_eq_true rfl, Nat.le_of_ble_eq_true rfl⟩) (hn := rfl) (hst := rfl) (hsum := (cat_le v)) (hdg := dL_law_979) ?_
  intro v' S2 h7
  obtain ⟨e, ⟨z, hz⟩, hS2⟩ := hk7 v' S2 h7
  obtain ⟨z2, ez, hz2⟩ := iI_ex (iI z)
  have hv : v = vI z2 := hz.trans (congrArg Value.int ez)
  have hv2 : v' = vI z2 := e.trans hv
  subst hv2
  refine g_at rfl rfl (st2 := [vI z2, vI z2]) (by rw [hv]) rfl ?_
  refine g_icmp_eq (pc := 982) (tgt := 1070) hX hz2 hz2 dL_law_982 (by decide) (fun _ => ?_) (fun q => absurd rfl q)
  exact hk S2 hS2
set_option maxHeartbeats 4000000 in
theorem law_shorter {w : gW} {X : gX} {b L : Nat} {f : Nat → Int} {i : Int} {S : Nat → va_E} (hX : gOK w room_1 X cL_law 8 RL wsL_law) (hT : scrT w X b L f) (hL : L ≤ 3072) (hf : ∀ j, inI (f j)) (hi : 0 ≤ i ∧ i + 6 ≤ L) (hI0 : INV w S) (hk : ∀ S', INV w S' → G w room_1 X 8 1070 [(3, vI i), (0, .ref b), (1, .ref (gw_ad w 0)), (2, .ref (gw_ad w 92))] [] S') : G w room_1 X 8 987 [(3, vI i), (0, .ref b), (1, .ref (gw_ad w 0)), (2, .ref (gw_ad w 92))] [] S := by
  obtain ⟨pc, j, ty, B, ρ, T, Tr, D, Z, pm, tm, xm, at_, wm, wh, ir, V, PV, TY, TX, MK, MM, CH, AM, WT, WK, FL, PI, s0, hI⟩ := hI0
  obtain ⟨K6, m6, hk6⟩ := two_shorter (l := gx_l X) hI (hf (i + 1).toNat) (hf (i + 2).toNat)
  refine g_aload_n (pc := 987) hX 2 rfl dL_law_987 ?_
  refine g_aload_n (pc := 988) hX 1 rfl dL_law_988 ?_
  refine g_iload_n (pc := 989) hX 0 rfl dL_law_989 ?_
  refine g_iconst (pc := 990) hX dL_law_990 ?_
  refine g_iadd (pc := 991) hX dL_law_991 ?_
  refine g_scald (pc := 992) hX hT (by omega) (by omega) (by omega) dL_law_992 ?_
  refine g_aload_n (pc := 993) hX 1 rfl dL_law_993 ?_
  refine g_iload_n (pc := 994) hX 0 rfl dL_law_994 ?_
  refine g_iconst (pc := 995) hX dL_law_995 ?_
  refine g_iadd (pc := 996) hX dL_law_996 ?_
  refine g_scald (pc := 997) hX hT (by omega) (by omega) (by omega) dL_law_997 ?_
  refine g_callV1 (pc := 998) (ci := 6) (As := [vI (f (i + 1).toNat), vI (f (i + 2).toNat)]) (st2 := []) hX 0 (by rw [hI.1.1]; decide) hI.1.2.1.1.1 rfl m6 gL_law_X6_shorter (n := 2) (hw := rfl) (hrc := rfl) (hrs := rfl) (hd := by decide +kernel) (hR := ⟨Nat.le_of_ble_eq_true rfl, Nat.le_of_ble_eq_true rfl⟩) (hn := rfl) (hst := rfl) (hsum := Nat.le_of_ble_eq_true rfl) (hdg := dL_law_998) ?_
  intro v S1 h6
  obtain ⟨e92, K7, m7, hk7⟩ := hk6 v S1 h6
  refine g_aload_n (pc := 1001) hX 3 rfl dL_law_1001 ?_
  refine g_aload_n (pc := 1002) hX 1 rfl dL_law_1002 ?_
  refine g_iload_n (pc := 1003) hX 0 rfl dL_law_1003 ?_
  refine g_iconst (pc := 1004) hX dL_law_1004 ?_
  refine g_iadd (pc := 1005) hX dL_law_1005 ?_
  refine g_scald (pc := 1006) hX hT (by omega) (by omega) (by omega) dL_law_1006 ?_
  refine g_aload_n (pc := 1007) hX 1 rfl dL_law_1007 ?_
  refine g_iload_n (pc := 1008) hX 0 rfl dL_law_1008 ?_
  refine g_iconst (pc := 1009) hX dL_law_1009 ?_
  refine g_iadd (pc := 1010) hX dL_law_1010 ?_
  refine g_scald (pc := 1011) hX hT (by omega) (by omega) (by omega) dL_law_1011 ?_
  refine g_callV1 (pc := 1012) (ci := 7) (As := [vI (f (i + 1).toNat), vI (f (i + 2).toNat)]) (st2 := [v]) hX 92 (by rw [hI.1.1]; decide) (e92.trans hI.1.2.2.1.1) rfl m7 gL_law_X7_shorter (n := 2) (hw := rfl) (hrc := rfl) (hrs := rfl) (hd := by decide +kernel) (hR := ⟨Nat.le_of_ble_eq_true rfl, Nat.le_of_ble_eq_true rfl⟩) (hn := rfl) (hst := rfl) (hsum := (cat_le v)) (hdg := dL_law_1012) ?_
  intro v' S2 h7
  obtain ⟨e, ⟨z, hz⟩, hS2⟩ := hk7 v' S2 h7
  obtain ⟨z2, ez, hz2⟩ := iI_ex (iI z)
  have hv : v = vI z2 := hz.trans (congrArg Value.int ez)
  have hv2 : v' = vI z2 := e.trans hv
  subst hv2
  refine g_at rfl rfl (st2 := [vI z2, vI z2]) (by rw [hv]) rfl ?_
  refine g_icmp_eq (pc := 1015) (tgt := 1070) hX hz2 hz2 dL_law_1015 (by decide) (fun _ => ?_) (fun q => absurd rfl q)
  exact hk S2 hS2
set_option maxHeartbeats 4000000 in
theorem law_cheapest {w : gW} {X : gX} {b L : Nat} {f : Nat → Int} {i : Int} {S : Nat → va_E} (hX : gOK w room_1 X cL_law 8 RL wsL_law) (hT : scrT w X b L f) (hL : L ≤ 3072) (hf : ∀ j, inI (f j)) (hi : 0 ≤ i ∧ i + 6 ≤ L) (hI0 : INV w S) (hk : ∀ S', INV w S' → G w room_1 X 8 1070 [(3, vI i), (0, .ref b), (1, .ref (gw_ad w 0)), (2, .ref (gw_ad w 92))] [] S') : G w room_1 X 8 1020 [(3, vI i), (0, .ref b), (1, .ref (gw_ad w 0)), (2, .ref (gw_ad w 92))] [] S := by
  obtain ⟨pc, j, ty, B, ρ, T, Tr, D, Z, pm, tm, xm, at_, wm, wh, ir, V, PV, TY, TX, MK, MM, CH, AM, WT, WK, FL, PI, s0, hI⟩ := hI0
  obtain ⟨K6, m6, hk6⟩ := two_cheapest (l := gx_l X) hI (hf (i + 1).toNat)
  refine g_aload_n (pc := 1020) hX 2 rfl dL_law_1020 ?_
  refine g_aload_n (pc := 1021) hX 1 rfl dL_law_1021 ?_
  refine g_iload_n (pc := 1022) hX 0 rfl dL_law_1022 ?_
  refine g_iconst (pc := 1023) hX dL_law_1023 ?_
  refine g_iadd (pc := 1024) hX dL_law_1024 ?_
  refine g_scald (pc := 1025) hX hT (by omega) (by omega) (by omega) dL_law_1025 ?_
  refine g_callV1 (pc := 1026) (ci := 6) (As := [vI (f (i + 1).toNat)]) (st2 := []) hX 0 (by rw [hI.1.1]; decide) hI.1.2.1.1.1 rfl m6 gL_law_X6_cheapest (n := 1) (hw := rfl) (hrc := rfl) (hrs := rfl) (hd := by decide +kernel) (hR := ⟨Nat.le_of_ble_eq_true rfl, Nat.le_of_ble_eq_true rfl⟩) (hn := rfl) (hst := rfl) (hsum := Nat.le_of_ble_eq_true rfl) (hdg := dL_law_1026) ?_
  intro v S1 h6
  obtain ⟨e92, K7, m7, hk7⟩ := hk6 v S1 h6
  refine g_aload_n (pc := 1029) hX 3 rfl dL_law_1029 ?_
  refine g_aload_n (pc := 1030) hX 1 rfl dL_law_1030 ?_
  refine g_iload_n (pc := 1031) hX 0 rfl dL_law_1031 ?_
  refine g_iconst (pc := 1032) hX dL_law_1032 ?_
  refine g_iadd (pc := 1033) hX dL_law_1033 ?_
  refine g_scald (pc := 1034) hX hT (by omega) (by omega) (by omega) dL_law_1034 ?_
  refine g_callV1 (pc := 1035) (ci := 7) (As := [vI (f (i + 1).toNat)]) (st2 := [v]) hX 92 (by rw [hI.1.1]; decide) (e92.trans hI.1.2.2.1.1) rfl m7 gL_law_X7_cheapest (n := 1) (hw := rfl) (hrc := rfl) (hrs := rfl) (hd := by decide +kernel) (hR := ⟨Nat.le_of_ble_eq_true rfl, Nat.le_of_ble_eq_true rfl⟩) (hn := rfl) (hst := rfl) (hsum := (cat_le v)) (hdg := dL_law_1035) ?_
  intro v' S2 h7
  obtain ⟨e, ⟨z, hz⟩, hS2⟩ := hk7 v' S2 h7
  obtain ⟨z2, ez, hz2⟩ := iI_ex (iI z)
  have hv : v = vI z2 := hz.trans (congrArg Value.int ez)
  have hv2 : v' = vI z2 := e.trans hv
  subst hv2
  refine g_at rfl rfl (st2 := [vI z2, vI z2]) (by rw [hv]) rfl ?_
  refine g_icmp_eq (pc := 1038) (tgt := 1070) hX hz2 hz2 dL_law_1038 (by decide) (fun _ => ?_) (fun q => absurd rfl q)
  exact hk S2 hS2
set_option maxHeartbeats 4000000 in
theorem law_undo {w : gW} {X : gX} {b L : Nat} {f : Nat → Int} {i : Int} {S : Nat → va_E} (hX : gOK w room_1 X cL_law 8 RL wsL_law) (hT : scrT w X b L f) (hL : L ≤ 3072) (hf : ∀ j, inI (f j)) (hi : 0 ≤ i ∧ i + 6 ≤ L) (hI0 : INV w S) (hk : ∀ S', INV w S' → G w room_1 X 8 1070 [(3, vI i), (0, .ref b), (1, .ref (gw_ad w 0)), (2, .ref (gw_ad w 92))] [] S') : G w room_1 X 8 1043 [(3, vI i), (0, .ref b), (1, .ref (gw_ad w 0)), (2, .ref (gw_ad w 92))] [] S := by
  obtain ⟨pc, j, ty, B, ρ, T, Tr, D, Z, pm, tm, xm, at_, wm, wh, ir, V, PV, TY, TX, MK, MM, CH, AM, WT, WK, FL, PI, s0, hI⟩ := hI0
  obtain ⟨K6, m6, hk6⟩ := two_undo (l := gx_l X) hI
  refine g_aload_n (pc := 1043) hX 2 rfl dL_law_1043 ?_
  refine g_callV1 (pc := 1044) (ci := 6) (As := []) (st2 := []) hX 0 (by rw [hI.1.1]; decide) hI.1.2.1.1.1 rfl m6 gL_law_X6_undo (n := 0) (hw := rfl) (hrc := rfl) (hrs := rfl) (hd := by decide +kernel) (hR := ⟨Nat.le_of_ble_eq_true rfl, Nat.le_of_ble_eq_true rfl⟩) (hn := rfl) (hst := rfl) (hsum := Nat.le_of_ble_eq_true rfl) (hdg := dL_law_1044) ?_
  intro v S1 h6
  obtain ⟨e92, K7, m7, hk7⟩ := hk6 v S1 h6
  refine g_aload_n (pc := 1047) hX 3 rfl dL_law_1047 ?_
  refine g_callV1 (pc := 1048) (ci := 7) (As := []) (st2 := [v]) hX 92 (by rw [hI.1.1]; decide) (e92.trans hI.1.2.2.1.1) rfl m7 gL_law_X7_undo (n := 0) (hw := rfl) (hrc := rfl) (hrs := rfl) (hd := by decide +kernel) (hR := ⟨Nat.le_of_ble_eq_true rfl, Nat.le_of_ble_eq_true rfl⟩) (hn := rfl) (hst := rfl) (hsum := (cat_le v)) (hdg := dL_law_1048) ?_
  intro v' S2 h7
  obtain ⟨e, ⟨z, hz⟩, hS2⟩ := hk7 v' S2 h7
  obtain ⟨z2, ez, hz2⟩ := iI_ex (iI z)
  have hv : v = vI z2 := hz.trans (congrArg Value.int ez)
  have hv2 : v' = vI z2 := e.trans hv
  subst hv2
  refine g_at rfl rfl (st2 := [vI z2, vI z2]) (by rw [hv]) rfl ?_
  refine g_icmp_eq (pc := 1051) (tgt := 1070) hX hz2 hz2 dL_law_1051 (by decide) (fun _ => ?_) (fun q => absurd rfl q)
  exact hk S2 hS2
set_option maxHeartbeats 4000000 in
theorem law_fingerprint {w : gW} {X : gX} {b L : Nat} {f : Nat → Int} {i : Int} {S : Nat → va_E} (hX : gOK w room_1 X cL_law 8 RL wsL_law) (hT : scrT w X b L f) (hL : L ≤ 3072) (hf : ∀ j, inI (f j)) (hi : 0 ≤ i ∧ i + 6 ≤ L) (hI0 : INV w S) (hk : ∀ S', INV w S' → G w room_1 X 8 1070 [(3, vI i), (0, .ref b), (1, .ref (gw_ad w 0)), (2, .ref (gw_ad w 92))] [] S') : G w room_1 X 8 1056 [(3, vI i), (0, .ref b), (1, .ref (gw_ad w 0)), (2, .ref (gw_ad w 92))] [] S := by
  obtain ⟨pc, j, ty, B, ρ, T, Tr, D, Z, pm, tm, xm, at_, wm, wh, ir, V, PV, TY, TX, MK, MM, CH, AM, WT, WK, FL, PI, s0, hI⟩ := hI0
  obtain ⟨K6, m6, hk6⟩ := two_fingerprint (l := gx_l X) hI
  refine g_aload_n (pc := 1056) hX 2 rfl dL_law_1056 ?_
  refine g_callV1 (pc := 1057) (ci := 6) (As := []) (st2 := []) hX 0 (by rw [hI.1.1]; decide) hI.1.2.1.1.1 rfl m6 gL_law_X6_fingerprint (n := 0) (hw := rfl) (hrc := rfl) (hrs := rfl) (hd := by decide +kernel) (hR := ⟨Nat.le_of_ble_eq_true rfl, Nat.le_of_ble_eq_true rfl⟩) (hn := rfl) (hst := rfl) (hsum := Nat.le_of_ble_eq_true rfl) (hdg := dL_law_1057) ?_
  intro v S1 h6
  obtain ⟨e92, K7, m7, hk7⟩ := hk6 v S1 h6
  refine g_aload_n (pc := 1060) hX 3 rfl dL_law_1060 ?_
  refine g_callV1 (pc := 1061) (ci := 7) (As := []) (st2 := [v]) hX 92 (by rw [hI.1.1]; decide) (e92.trans hI.1.2.2.1.1) rfl m7 gL_law_X7_fingerprint (n := 0) (hw := rfl) (hrc := rfl) (hrs := rfl) (hd := by decide +kernel) (hR := ⟨Nat.le_of_ble_eq_true rfl, Nat.le_of_ble_eq_true rfl⟩) (hn := rfl) (hst := rfl) (hsum := (cat_le v)) (hdg := dL_law_1061) ?_
  intro v' S2 h7
  obtain ⟨e, ⟨z, hz⟩, hS2⟩ := hk7 v' S2 h7
  have hv : v = vL (lI z).toInt := hz.trans (congrArg Value.long (lI_eta (lI z)).symm)
  have hv2 : v' = vL (lI z).toInt := e.trans hv
  subst hv2
  refine g_at rfl rfl (st2 := [vL (lI z).toInt, vL (lI z).toInt]) (by rw [hv]) rfl ?_
  refine g_lcmp_eq (pc := 1064) (tgt := 1070) hX (inL_of _) (inL_of _) dL_law_1064 dL_law_1065 (by decide) (fun _ => ?_) (fun q => absurd rfl q)
  exact hk S2 hS2
theorem two_densF {w : gW} {l : Launch} {pc j : Nat} {ty : Int} {B ρ T : Int → Int} {Tr : Int → Int → Int} {D : SD} {Z : Nat → SD} {pm tm xm at_ wm wh : Int} {ir : Bool} {V PV TY TX MK MM CH AM WT WK FL PI : Int → Int} {s0 : Int → rdS} {S : Nat → va_E} (h : invR w pc j ty B ρ T Tr D Z pm tm xm at_ wm wh ir V PV TY TX MK MM CH AM WT WK FL PI s0 S) {p : Int} (hp : inI p) :
    ∃ K6, GM1 w l yX6_density wsX6_density { frames := 2, cells := 0, slots := 0, locals := 45 } [.ref (gw_ad w 0), vI p] S K6 ∧ ∀ v S1, K6 v S1 → ∃ x, v = .float x ∧ vf_n32 x ∧ S1 92 = S 92 ∧ ∃ K7, GM1 w l yX7_density wsX7_density { frames := 2, cells := 0, slots := 0, locals := 48 } [.ref (gw_ad w 92), vI p] S1 K7 ∧ ∀ v' S2, K7 v' S2 → v' = .float x ∧ INV w S2 := by
  obtain ⟨hO, hh, hpm, htm⟩ := h.ok
  obtain ⟨⟨hN, hd, hm⟩, ⟨ep, hg, hz, hhi⟩, hb, hr, hf⟩ := id h
  have hmv := hg.2.2.2.1
  have e19 : V 19 = snP D := hmv.ls.1.1
  refine ⟨_, c_X6_density hN hd hO hp, fun v S1 k6 => ?_⟩
  by_cases c1 : 0 ≤ p ∧ p < snP D
  · rw [if_pos c1] at k6
    obtain ⟨e1, e2⟩ := k6
    subst e2
    obtain ⟨-, r1, r2, r3, -⟩ := hg.1.2.1.2.2 p c1.1 c1.2
    have hv := volZ_b r1 r2 r3
    refine ⟨_, e1, fdiv_ok ⟨by omega, by omega⟩, rfl, _, c_X7_density hN hm hg.2.2.2.2.2.1 (hmv.n19 hg.1) (hmv.sd hg.1) hp, fun v' S2 k7 => ?_⟩
    rw [if_pos (by omega)] at k7
    obtain ⟨e3, e4⟩ := k7
    subst e4
    refine ⟨?_, h.i⟩
    rw [e3, hmv.col c1.1 c1.2 (c := 0) (by decide) (by decide), hmv.col c1.1 c1.2 (c := 1) (by decide) (by decide), hmv.col c1.1 c1.2 (c := 2) (by decide) (by decide), hmv.col c1.1 c1.2 (c := 3) (by decide) (by decide)]
  · rw [if_neg c1] at k6
    obtain ⟨e1, e2⟩ := k6
    subst e2
    refine ⟨_, e1, by unfold vf_n32; decide, rfl, _, c_X7_density hN hm hg.2.2.2.2.2.1 (hmv.n19 hg.1) (hmv.sd hg.1) hp, fun v' S2 k7 => ?_⟩
    rw [if_neg (by omega)] at k7
    obtain ⟨e3, e4⟩ := k7
    subst e4
    exact ⟨e3, h.i⟩
set_option maxHeartbeats 4000000 in
theorem law_density {w : gW} {X : gX} {b L : Nat} {f : Nat → Int} {i : Int} {S : Nat → va_E} (hX : gOK w room_1 X cL_law 8 RL wsL_law) (hT : scrT w X b L f) (hL : L ≤ 3072) (hf : ∀ j, inI (f j)) (hi : 0 ≤ i ∧ i + 6 ≤ L) (hI0 : INV w S) (hk : ∀ S', INV w S' → G w room_1 X 8 1070 [(3, vI i), (0, .ref b), (1, .ref (gw_ad w 0)), (2, .ref (gw_ad w 92))] [] S') : G w room_1 X 8 749 [(3, vI i), (0, .ref b), (1, .ref (gw_ad w 0)), (2, .ref (gw_ad w 92))] [] S := by
  obtain ⟨pc, j, ty, B, ρ, T, Tr, D, Z, pm, tm, xm, at_, wm, wh, ir, V, PV, TY, TX, MK, MM, CH, AM, WT, WK, FL, PI, s0, hI⟩ := hI0
  obtain ⟨K6, m6, hk6⟩ := two_densF (l := gx_l X) hI (hf (i + 1).toNat)
  refine g_aload_n (pc := 749) hX 2 rfl dL_law_749 ?_
  refine g_aload_n (pc := 750) hX 1 rfl dL_law_750 ?_
  refine g_iload_n (pc := 751) hX 0 rfl dL_law_751 ?_
  refine g_iconst (pc := 752) hX dL_law_752 ?_
  refine g_iadd (pc := 753) hX dL_law_753 ?_
  refine g_scald (pc := 754) hX hT (by omega) (by omega) (by omega) dL_law_754 ?_
  refine g_callV1 (pc := 755) (ci := 6) (As := [vI (f (i + 1).toNat)]) (st2 := []) hX 0 (by rw [hI.1.1]; decide) hI.1.2.1.1.1 rfl m6 gL_law_X6_density (n := 1) (hw := rfl) (hrc := rfl) (hrs := rfl) (hd := by decide +kernel) (hR := ⟨Nat.le_of_ble_eq_true rfl, Nat.le_of_ble_eq_true rfl⟩) (hn := rfl) (hst := rfl) (hsum := Nat.le_of_ble_eq_true rfl) (hdg := dL_law_755) ?_
  intro v S1 h6
  obtain ⟨x, ex, hx, e92, K7, m7, hk7⟩ := hk6 v S1 h6
  subst ex
  refine g_f2d (pc := 758) hX hx dL_law_758 ?_
  refine g_dstore (pc := 759) hX (lv2 := [(4, .double (FP.f2d x)), (3, vI i), (0, .ref b), (1, .ref (gw_ad w 0)), (2, .ref (gw_ad w 92))]) (by decide) rfl dL_law_759 ?_
  refine g_aload_n (pc := 761) hX 4 rfl dL_law_761 ?_
  refine g_aload_n (pc := 762) hX 2 rfl dL_law_762 ?_
  refine g_iload_n (pc := 763) hX 1 rfl dL_law_763 ?_
  refine g_iconst (pc := 764) hX dL_law_764 ?_
  refine g_iadd (pc := 765) hX dL_law_765 ?_
  refine g_scald (pc := 766) hX hT (by omega) (by omega) (by omega) dL_law_766 ?_
  refine g_callV1 (pc := 767) (ci := 7) (As := [vI (f (i + 1).toNat)]) (st2 := []) hX 92 (by rw [hI.1.1]; decide) (e92.trans hI.1.2.2.1.1) rfl m7 gL_law_X7_density (n := 1) (hw := rfl) (hrc := rfl) (hrs := rfl) (hd := by decide +kernel) (hR := ⟨Nat.le_of_ble_eq_true rfl, Nat.le_of_ble_eq_true rfl⟩) (hn := rfl) (hst := rfl) (hsum := Nat.le_of_ble_eq_true rfl) (hdg := dL_law_767) ?_
  intro v' S2 h7
  obtain ⟨e, hS2⟩ := hk7 v' S2 h7
  subst e
  refine g_f2d (pc := 770) hX hx dL_law_770 ?_
  refine g_dstore (pc := 771) hX (lv2 := [(6, .double (FP.f2d x)), (4, .double (FP.f2d x)), (3, vI i), (0, .ref b), (1, .ref (gw_ad w 0)), (2, .ref (gw_ad w 92))]) (by decide) rfl dL_law_771 ?_
  refine g_dload (pc := 773) hX 1 rfl dL_law_773 ?_
  refine g_dload (pc := 775) hX 0 rfl dL_law_775 ?_
  refine g_dcmp_self (pc := 777) hX hx dL_law_777 ?_
  refine g_if_eq (pc := 778) (tgt := 799) hX inI_0 dL_law_778 (by decide) (fun _ => ?_) (fun q => absurd rfl q)
  refine g_goto (pc := 799) (tgt := 1070) hX dL_law_799 (by decide) ?_
  refine g_sub [2, 3, 4, 5] rfl ?_
  exact hk S2 hS2
