set_option maxHeartbeats 4000000 in
set_option maxRecDepth 100000 in
theorem law_feed {p : Program} {e : Env} {s : State} {m : MethodId} {below : List Frame} {meth : Method} {c : Code} (l : Launch) (G : va_G) (k : Nat → ClassId) (sa : Nat → Nat) {b L : Nat} {xs : Nat → Int32} (C0 : lw_At p s m meth c b L xs) (hE : gE G k sa s) {A : Nat → Prop} (hAe : A = fun q => s.heap.size ≤ q) (hZ : gZ sa A s s.heap) (ad am : Nat → Nat) (S T : gS) (hG : gGI ad S) (hT : gGM T) (hLk : gLk S T) (i : Int32) (hi : gIv 0 3066 i) (hiL : i.toInt + 6 ≤ (L : Int)) {H : Heap} {locs : List Loc} {ls : Array Slot} (hP : va_P G vwCl (ggW k ad S ++ mmW k am T) H) (hD : va_D A (ggW k ad S ++ mmW k am T)) (hS : va_S A s.heap H locs) (hl : lv_has ls 4 [(3, .int i), (2, .ref (am 0)), (1, .ref (ad 100)), (0, .ref b)]) (K : ∀ (S' T' : gS) (H' : Heap) (locs' : List Loc), gGI ad S' → gGM T' → gLk S' T' → va_P G vwCl (ggW k ad S' ++ mmW k am T') H' → va_D A (ggW k ad S' ++ mmW k am T') → va_S A s.heap H' locs' → W p l e room_1 s m #[Value.ref b] below meth c H' locs' 285 12688 (lw_Z below #[Value.ref b] s) (F0 m 1253 ls [])) : W p l e room_1 s m #[Value.ref b] below meth c H locs 285 12688 (lw_Z below #[Value.ref b] s) (F0 m 188 ls []) := by
  obtain ⟨hx, hb, hr, hml, hown, hts, hX, hbl, hlocks, hgv⟩ := id C0
  have hA : ∀ q : Nat, s.heap.size ≤ q → A q := by rw [hAe]; exact fun _ h => h
  have hbA : ¬ A b := by rw [hAe]; exact Nat.not_le.mpr hbl
  refine lv_aload_n hx hb dL_law_188 rfl (lv_at hl 2 rfl) ?_
  refine lv_aload_n hx hb dL_law_189 rfl (lv_at hl 3 rfl) ?_
  refine lv_iload_n hx hb dL_law_190 rfl (lv_at hl 0 rfl) ?_
  refine lv_iconst (v := 1) hx hb dL_law_191 (by decide) ?_
  refine lv_iadd hx hb dL_law_192 ?_
  refine lv_topi (fun xa_1 exa_1 => ?_)
  have ixa_1 : xa_1.toInt = i.toInt + 1 := gI_add exa_1 hi (by decide) (by decide)
  refine va_sld hx hb hX hbl hbA hS (vp_in_iff.mpr ⟨by have z := hi.1; omega, by omega⟩) dL_law_193 ?_
  refine lv_topi (fun ya_1 eya_1 => ?_)
  refine lv_aload_n hx hb dL_law_194 rfl (lv_at hl 3 rfl) ?_
  refine lv_iload_n hx hb dL_law_195 rfl (lv_at hl 0 rfl) ?_
  refine lv_iconst (v := 2) hx hb dL_law_196 (by decide) ?_
  refine lv_iadd hx hb dL_law_197 ?_
  refine lv_topi (fun xa_2 exa_2 => ?_)
  have ixa_2 : xa_2.toInt = i.toInt + 2 := gI_add exa_2 hi (by decide) (by decide)
  refine va_sld hx hb hX hbl hbA hS (vp_in_iff.mpr ⟨by have z := hi.1; omega, by omega⟩) dL_law_198 ?_
  refine lv_topi (fun ya_2 eya_2 => ?_)
  refine lv_aload_n hx hb dL_law_199 rfl (lv_at hl 3 rfl) ?_
  refine lv_iload_n hx hb dL_law_200 rfl (lv_at hl 0 rfl) ?_
  refine lv_iconst (v := 3) hx hb dL_law_201 (by decide) ?_
  refine lv_iadd hx hb dL_law_202 ?_
  refine lv_topi (fun xa_3 exa_3 => ?_)
  have ixa_3 : xa_3.toInt = i.toInt + 3 := gI_add exa_3 hi (by decide) (by decide)
  refine va_sld hx hb hX hbl hbA hS (vp_in_iff.mpr ⟨by have z := hi.1; omega, by omega⟩) dL_law_203 ?_
  refine lv_topi (fun ya_3 eya_3 => ?_)
  refine lv_aload_n hx hb dL_law_204 rfl (lv_at hl 3 rfl) ?_
  refine lv_iload_n hx hb dL_law_205 rfl (lv_at hl 0 rfl) ?_
  refine lv_iconst (v := 4) hx hb dL_law_206 (by decide) ?_
  refine lv_iadd hx hb dL_law_207 ?_
  refine lv_topi (fun xa_4 exa_4 => ?_)
  have ixa_4 : xa_4.toInt = i.toInt + 4 := gI_add exa_4 hi (by decide) (by decide)
  refine va_sld hx hb hX hbl hbA hS (vp_in_iff.mpr ⟨by have z := hi.1; omega, by omega⟩) dL_law_208 ?_
  refine lv_topi (fun ya_4 eya_4 => ?_)
  refine lv_aload_n hx hb dL_law_209 rfl (lv_at hl 3 rfl) ?_
  refine lv_iload_n hx hb dL_law_210 rfl (lv_at hl 0 rfl) ?_
  refine lv_iconst (v := 5) hx hb dL_law_211 (by decide) ?_
  refine lv_iadd hx hb dL_law_212 ?_
  refine lv_topi (fun xa_5 exa_5 => ?_)
  have ixa_5 : xa_5.toInt = i.toInt + 5 := gI_add exa_5 hi (by decide) (by decide)
  refine va_sld hx hb hX hbl hbA hS (vp_in_iff.mpr ⟨by have z := hi.1; omega, by omega⟩) dL_law_213 ?_
  refine lv_topi (fun ya_5 eya_5 => ?_)
  refine gz_iF hP hD hS hA (va_runV (As := [.int ya_1, .int ya_2, .int ya_3, .int ya_4, .int ya_5]) (rest := []) ⟨hx, hb, hml, hown, hts⟩ (f_X10_feed l G k sa _ ad S hG ya_1 ya_2 ya_3 ya_4 ya_5) (cwV 5 hts g_L_13_s_X10_feed rfl rfl rfl (by decide +kernel) ⟨(Nat.le_of_ble_eq_true rfl), (Nat.le_of_ble_eq_true rfl)⟩) ⟨gP.bl, va_recv hE.K hP (ci := 10) (q0 := 0) rfl rfl, gz_preF hE hZ hS hA hP hD⟩ rfl rfl hl.1 rfl (lv_room (Nat.le_of_ble_eq_true rfl)) dL_law_214 ⟨(Nat.le_of_ble_eq_true rfl), (Nat.le_of_ble_eq_true rfl)⟩) (fun rx ux H locs hx hP hD hS => ?_)
  obtain ⟨hGx, hXx⟩ := hx
  refine lv_pop hx hb dL_law_217 rfl ?_
  refine lv_aload_n hx hb dL_law_218 rfl (lv_at hl 1 rfl) ?_
  refine lv_aload_n hx hb dL_law_219 rfl (lv_at hl 3 rfl) ?_
  refine lv_iload_n hx hb dL_law_220 rfl (lv_at hl 0 rfl) ?_
  refine lv_iconst (v := 1) hx hb dL_law_221 (by decide) ?_
  refine lv_iadd hx hb dL_law_222 ?_
  refine lv_topi (fun xb_1 exb_1 => ?_)
  have ixb_1 : xb_1.toInt = i.toInt + 1 := gI_add exb_1 hi (by decide) (by decide)
  refine va_sld hx hb hX hbl hbA hS (vp_in_iff.mpr ⟨by have z := hi.1; omega, by omega⟩) dL_law_223 ?_
  refine lv_topi (fun yb_1 eyb_1 => ?_)
  refine lv_aload_n hx hb dL_law_224 rfl (lv_at hl 3 rfl) ?_
  refine lv_iload_n hx hb dL_law_225 rfl (lv_at hl 0 rfl) ?_
  refine lv_iconst (v := 2) hx hb dL_law_226 (by decide) ?_
  refine lv_iadd hx hb dL_law_227 ?_
  refine lv_topi (fun xb_2 exb_2 => ?_)
  have ixb_2 : xb_2.toInt = i.toInt + 2 := gI_add exb_2 hi (by decide) (by decide)
  refine va_sld hx hb hX hbl hbA hS (vp_in_iff.mpr ⟨by have z := hi.1; omega, by omega⟩) dL_law_228 ?_
  refine lv_topi (fun yb_2 eyb_2 => ?_)
  refine lv_aload_n hx hb dL_law_229 rfl (lv_at hl 3 rfl) ?_
  refine lv_iload_n hx hb dL_law_230 rfl (lv_at hl 0 rfl) ?_
  refine lv_iconst (v := 3) hx hb dL_law_231 (by decide) ?_
  refine lv_iadd hx hb dL_law_232 ?_
  refine lv_topi (fun xb_3 exb_3 => ?_)
  have ixb_3 : xb_3.toInt = i.toInt + 3 := gI_add exb_3 hi (by decide) (by decide)
  refine va_sld hx hb hX hbl hbA hS (vp_in_iff.mpr ⟨by have z := hi.1; omega, by omega⟩) dL_law_233 ?_
  refine lv_topi (fun yb_3 eyb_3 => ?_)
  refine lv_aload_n hx hb dL_law_234 rfl (lv_at hl 3 rfl) ?_
  refine lv_iload_n hx hb dL_law_235 rfl (lv_at hl 0 rfl) ?_
  refine lv_iconst (v := 4) hx hb dL_law_236 (by decide) ?_
  refine lv_iadd hx hb dL_law_237 ?_
  refine lv_topi (fun xb_4 exb_4 => ?_)
  have ixb_4 : xb_4.toInt = i.toInt + 4 := gI_add exb_4 hi (by decide) (by decide)
  refine va_sld hx hb hX hbl hbA hS (vp_in_iff.mpr ⟨by have z := hi.1; omega, by omega⟩) dL_law_238 ?_
  refine lv_topi (fun yb_4 eyb_4 => ?_)
  refine lv_aload_n hx hb dL_law_239 rfl (lv_at hl 3 rfl) ?_
  refine lv_iload_n hx hb dL_law_240 rfl (lv_at hl 0 rfl) ?_
  refine lv_iconst (v := 5) hx hb dL_law_241 (by decide) ?_
  refine lv_iadd hx hb dL_law_242 ?_
  refine lv_topi (fun xb_5 exb_5 => ?_)
  have ixb_5 : xb_5.toInt = i.toInt + 5 := gI_add exb_5 hi (by decide) (by decide)
  refine va_sld hx hb hX hbl hbA hS (vp_in_iff.mpr ⟨by have z := hi.1; omega, by omega⟩) dL_law_243 ?_
  refine lv_topi (fun yb_5 eyb_5 => ?_)
  refine gz_iF hP hD hS hA (va_runV (As := [.int yb_1, .int yb_2, .int yb_3, .int yb_4, .int yb_5]) (rest := []) ⟨hx, hb, hml, hown, hts⟩ (f_X11_feed l G k sa _ am T hT.1 hT.2 yb_1 yb_2 yb_3 yb_4 yb_5) (cwV 5 hts g_L_17_r_feed rfl rfl rfl (by decide +kernel) ⟨(Nat.le_of_ble_eq_true rfl), (Nat.le_of_ble_eq_true rfl)⟩) ⟨gP.bl, va_recv hE.K hP (ci := 11) (q0 := 0) rfl rfl, gz_preF hE hZ hS hA hP hD⟩ rfl rfl hl.1 rfl (lv_room (Nat.le_of_ble_eq_true rfl)) dL_law_244 ⟨(Nat.le_of_ble_eq_true rfl), (Nat.le_of_ble_eq_true rfl)⟩) (fun rm um H locs hm hP hD hS => ?_)
  obtain ⟨hTm, hXm⟩ := hm
  refine lv_pop hx hb dL_law_247 rfl ?_
  refine lv_goto (tgt := 1253) hx hb dL_law_248 (by decide) ?_
  exact K ux um H locs hGx hTm (gLk_mv hLk hXx hXm) hP hD hS
set_option maxHeartbeats 4000000 in
set_option maxRecDepth 100000 in
theorem law_end {p : Program} {e : Env} {s : State} {m : MethodId} {below : List Frame} {meth : Method} {c : Code} (l : Launch) (G : va_G) (k : Nat → ClassId) (sa : Nat → Nat) {b L : Nat} {xs : Nat → Int32} (C0 : lw_At p s m meth c b L xs) (hE : gE G k sa s) {A : Nat → Prop} (hAe : A = fun q => s.heap.size ≤ q) (hZ : gZ sa A s s.heap) (ad am : Nat → Nat) (S T : gS) (hG : gGI ad S) (hT : gGM T) (hLk : gLk S T) (i : Int32) (hi : gIv 0 3066 i) (hiL : i.toInt + 6 ≤ (L : Int)) {H : Heap} {locs : List Loc} {ls : Array Slot} (hP : va_P G vwCl (ggW k ad S ++ mmW k am T) H) (hD : va_D A (ggW k ad S ++ mmW k am T)) (hS : va_S A s.heap H locs) (hl : lv_has ls 4 [(3, .int i), (2, .ref (am 0)), (1, .ref (ad 100)), (0, .ref b)]) (K : ∀ (S' T' : gS) (H' : Heap) (locs' : List Loc), gGI ad S' → gGM T' → gLk S' T' → va_P G vwCl (ggW k ad S' ++ mmW k am T') H' → va_D A (ggW k ad S' ++ mmW k am T') → va_S A s.heap H' locs' → W p l e room_1 s m #[Value.ref b] below meth c H' locs' 285 12688 (lw_Z below #[Value.ref b] s) (F0 m 1253 ls [])) : W p l e room_1 s m #[Value.ref b] below meth c H locs 285 12688 (lw_Z below #[Value.ref b] s) (F0 m 251 ls []) := by
  obtain ⟨hx, hb, hr, hml, hown, hts, hX, hbl, hlocks, hgv⟩ := id C0
  have hA : ∀ q : Nat, s.heap.size ≤ q → A q := by rw [hAe]; exact fun _ h => h
  have hbA : ¬ A b := by rw [hAe]; exact Nat.not_le.mpr hbl
  refine lv_aload_n hx hb dL_law_251 rfl (lv_at hl 2 rfl) ?_
  refine lv_aload_n hx hb dL_law_252 rfl (lv_at hl 3 rfl) ?_
  refine lv_iload_n hx hb dL_law_253 rfl (lv_at hl 0 rfl) ?_
  refine lv_iconst (v := 1) hx hb dL_law_254 (by decide) ?_
  refine lv_iadd hx hb dL_law_255 ?_
  refine lv_topi (fun xa_1 exa_1 => ?_)
  have ixa_1 : xa_1.toInt = i.toInt + 1 := gI_add exa_1 hi (by decide) (by decide)
  refine va_sld hx hb hX hbl hbA hS (vp_in_iff.mpr ⟨by have z := hi.1; omega, by omega⟩) dL_law_256 ?_
  refine lv_topi (fun ya_1 eya_1 => ?_)
  refine gz_iF hP hD hS hA (va_runV (As := [.int ya_1]) (rest := []) ⟨hx, hb, hml, hown, hts⟩ (f_X10_end l G k sa _ ad S hG ya_1) (cwV 1 hts g_L_18_s_X10_end rfl rfl rfl (by decide +kernel) ⟨(Nat.le_of_ble_eq_true rfl), (Nat.le_of_ble_eq_true rfl)⟩) ⟨gP.bl, va_recv hE.K hP (ci := 10) (q0 := 0) rfl rfl, gz_preF hE hZ hS hA hP hD⟩ rfl rfl hl.1 rfl (lv_room (Nat.le_of_ble_eq_true rfl)) dL_law_257 ⟨(Nat.le_of_ble_eq_true rfl), (Nat.le_of_ble_eq_true rfl)⟩) (fun rx ux H locs hx hP hD hS => ?_)
  obtain ⟨hGx, hXx⟩ := hx
  refine lv_pop hx hb dL_law_260 rfl ?_
  refine lv_aload_n hx hb dL_law_261 rfl (lv_at hl 1 rfl) ?_
  refine lv_aload_n hx hb dL_law_262 rfl (lv_at hl 3 rfl) ?_
  refine lv_iload_n hx hb dL_law_263 rfl (lv_at hl 0 rfl) ?_
  refine lv_iconst (v := 1) hx hb dL_law_264 (by decide) ?_
  refine lv_iadd hx hb dL_law_265 ?_
  refine lv_topi (fun xb_1 exb_1 => ?_)
  have ixb_1 : xb_1.toInt = i.toInt + 1 := gI_add exb_1 hi (by decide) (by decide)
  refine va_sld hx hb hX hbl hbA hS (vp_in_iff.mpr ⟨by have z := hi.1; omega, by omega⟩) dL_law_266 ?_
  refine lv_topi (fun yb_1 eyb_1 => ?_)
  refine gz_iF hP hD hS hA (va_runV (As := [.int yb_1]) (rest := []) ⟨hx, hb, hml, hown, hts⟩ (f_X11_end l G k sa _ am T hT.1 hT.2 yb_1) (cwV 1 hts g_L_22_r_end rfl rfl rfl (by decide +kernel) ⟨(Nat.le_of_ble_eq_true rfl), (Nat.le_of_ble_eq_true rfl)⟩) ⟨gP.bl, va_recv hE.K hP (ci := 11) (q0 := 0) rfl rfl, gz_preF hE hZ hS hA hP hD⟩ rfl rfl hl.1 rfl (lv_room (Nat.le_of_ble_eq_true rfl)) dL_law_267 ⟨(Nat.le_of_ble_eq_true rfl), (Nat.le_of_ble_eq_true rfl)⟩) (fun rm um H locs hm hP hD hS => ?_)
  obtain ⟨hTm, hXm⟩ := hm
  refine lv_pop hx hb dL_law_270 rfl ?_
  refine lv_goto (tgt := 1253) hx hb dL_law_271 (by decide) ?_
  exact K ux um H locs hGx hTm (gLk_mv hLk hXx hXm) hP hD hS
set_option maxHeartbeats 4000000 in
set_option maxRecDepth 100000 in
theorem law_country {p : Program} {e : Env} {s : State} {m : MethodId} {below : List Frame} {meth : Method} {c : Code} (l : Launch) (G : va_G) (k : Nat → ClassId) (sa : Nat → Nat) {b L : Nat} {xs : Nat → Int32} (C0 : lw_At p s m meth c b L xs) (hE : gE G k sa s) {A : Nat → Prop} (hAe : A = fun q => s.heap.size ≤ q) (hZ : gZ sa A s s.heap) (ad am : Nat → Nat) (S T : gS) (hG : gGI ad S) (hT : gGM T) (hLk : gLk S T) (i : Int32) (hi : gIv 0 3066 i) (hiL : i.toInt + 6 ≤ (L : Int)) {H : Heap} {locs : List Loc} {ls : Array Slot} (hP : va_P G vwCl (ggW k ad S ++ mmW k am T) H) (hD : va_D A (ggW k ad S ++ mmW k am T)) (hS : va_S A s.heap H locs) (hl : lv_has ls 4 [(3, .int i), (2, .ref (am 0)), (1, .ref (ad 100)), (0, .ref b)]) (K : ∀ (S' T' : gS) (H' : Heap) (locs' : List Loc), gGI ad S' → gGM T' → gLk S' T' → va_P G vwCl (ggW k ad S' ++ mmW k am T') H' → va_D A (ggW k ad S' ++ mmW k am T') → va_S A s.heap H' locs' → W p l e room_1 s m #[Value.ref b] below meth c H' locs' 285 12688 (lw_Z below #[Value.ref b] s) (F0 m 1253 ls [])) : W p l e room_1 s m #[Value.ref b] below meth c H locs 285 12688 (lw_Z below #[Value.ref b] s) (F0 m 274 ls []) := by
  obtain ⟨hx, hb, hr, hml, hown, hts, hX, hbl, hlocks, hgv⟩ := id C0
  have hA : ∀ q : Nat, s.heap.size ≤ q → A q := by rw [hAe]; exact fun _ h => h
  have hbA : ¬ A b := by rw [hAe]; exact Nat.not_le.mpr hbl
  refine lv_aload_n hx hb dL_law_274 rfl (lv_at hl 2 rfl) ?_
  refine gz_iF hP hD hS hA (va_runV (As := []) (rest := []) ⟨hx, hb, hml, hown, hts⟩ (f_X10_country l G k sa _ ad S hG) (cwV 0 hts g_L_23_s_X10_country rfl rfl rfl (by decide +kernel) ⟨(Nat.le_of_ble_eq_true rfl), (Nat.le_of_ble_eq_true rfl)⟩) ⟨gP.bl, va_recv hE.K hP (ci := 10) (q0 := 0) rfl rfl, gz_preF hE hZ hS hA hP hD⟩ rfl rfl hl.1 rfl (lv_room (Nat.le_of_ble_eq_true rfl)) dL_law_275 ⟨(Nat.le_of_ble_eq_true rfl), (Nat.le_of_ble_eq_true rfl)⟩) (fun rx ux H locs hx hP hD hS => ?_)
  obtain ⟨hGx, hXx⟩ := hx
  refine lv_pop hx hb dL_law_278 rfl ?_
  refine lv_aload_n hx hb dL_law_279 rfl (lv_at hl 1 rfl) ?_
  refine gz_iF hP hD hS hA (va_runV (As := []) (rest := []) ⟨hx, hb, hml, hown, hts⟩ (f_X11_country l G k sa _ am T hT.1 hT.2) (cwV 0 hts g_L_27_r_country rfl rfl rfl (by decide +kernel) ⟨(Nat.le_of_ble_eq_true rfl), (Nat.le_of_ble_eq_true rfl)⟩) ⟨gP.bl, va_recv hE.K hP (ci := 11) (q0 := 0) rfl rfl, gz_preF hE hZ hS hA hP hD⟩ rfl rfl hl.1 rfl (lv_room (Nat.le_of_ble_eq_true rfl)) dL_law_280 ⟨(Nat.le_of_ble_eq_true rfl), (Nat.le_of_ble_eq_true rfl)⟩) (fun rm um H locs hm hP hD hS => ?_)
  obtain ⟨hTm, hXm⟩ := hm
  refine lv_pop hx hb dL_law_283 rfl ?_
  refine lv_goto (tgt := 1253) hx hb dL_law_284 (by decide) ?_
  exact K ux um H locs hGx hTm (gLk_mv hLk hXx hXm) hP hD hS
set_option maxHeartbeats 4000000 in
set_option maxRecDepth 100000 in
theorem law_rule {p : Program} {e : Env} {s : State} {m : MethodId} {below : List Frame} {meth : Method} {c : Code} (l : Launch) (G : va_G) (k : Nat → ClassId) (sa : Nat → Nat) {b L : Nat} {xs : Nat → Int32} (C0 : lw_At p s m meth c b L xs) (hE : gE G k sa s) {A : Nat → Prop} (hAe : A = fun q => s.heap.size ≤ q) (hZ : gZ sa A s s.heap) (ad am : Nat → Nat) (S T : gS) (hG : gGI ad S) (hT : gGM T) (hLk : gLk S T) (i : Int32) (hi : gIv 0 3066 i) (hiL : i.toInt + 6 ≤ (L : Int)) {H : Heap} {locs : List Loc} {ls : Array Slot} (hP : va_P G vwCl (ggW k ad S ++ mmW k am T) H) (hD : va_D A (ggW k ad S ++ mmW k am T)) (hS : va_S A s.heap H locs) (hl : lv_has ls 4 [(3, .int i), (2, .ref (am 0)), (1, .ref (ad 100)), (0, .ref b)]) (K : ∀ (S' T' : gS) (H' : Heap) (locs' : List Loc), gGI ad S' → gGM T' → gLk S' T' → va_P G vwCl (ggW k ad S' ++ mmW k am T') H' → va_D A (ggW k ad S' ++ mmW k am T') → va_S A s.heap H' locs' → W p l e room_1 s m #[Value.ref b] below meth c H' locs' 285 12688 (lw_Z below #[Value.ref b] s) (F0 m 1253 ls [])) : W p l e room_1 s m #[Value.ref b] below meth c H locs 285 12688 (lw_Z below #[Value.ref b] s) (F0 m 287 ls []) := by
  obtain ⟨hx, hb, hr, hml, hown, hts, hX, hbl, hlocks, hgv⟩ := id C0
  have hA : ∀ q : Nat, s.heap.size ≤ q → A q := by rw [hAe]; exact fun _ h => h
  have hbA : ¬ A b := by rw [hAe]; exact Nat.not_le.mpr hbl
  refine lv_aload_n hx hb dL_law_287 rfl (lv_at hl 2 rfl) ?_
  refine gz_iF hP hD hS hA (va_runV (As := []) (rest := []) ⟨hx, hb, hml, hown, hts⟩ (f_X10_rule l G k sa _ ad S hG) (cwV 0 hts g_L_28_s_X10_rule rfl rfl rfl (by decide +kernel) ⟨(Nat.le_of_ble_eq_true rfl), (Nat.le_of_ble_eq_true rfl)⟩) ⟨gP.bl, va_recv hE.K hP (ci := 10) (q0 := 0) rfl rfl, gz_preF hE hZ hS hA hP hD⟩ rfl rfl hl.1 rfl (lv_room (Nat.le_of_ble_eq_true rfl)) dL_law_288 ⟨(Nat.le_of_ble_eq_true rfl), (Nat.le_of_ble_eq_true rfl)⟩) (fun rx ux H locs hx hP hD hS => ?_)
  obtain ⟨hGx, hXx⟩ := hx
  refine lv_pop hx hb dL_law_291 rfl ?_
  refine lv_aload_n hx hb dL_law_292 rfl (lv_at hl 1 rfl) ?_
  refine gz_iF hP hD hS hA (va_runV (As := []) (rest := []) ⟨hx, hb, hml, hown, hts⟩ (f_X11_rule l G k sa _ am T hT.1 hT.2) (cwV 0 hts g_L_31_r_rule rfl rfl rfl (by decide +kernel) ⟨(Nat.le_of_ble_eq_true rfl), (Nat.le_of_ble_eq_true rfl)⟩) ⟨gP.bl, va_recv hE.K hP (ci := 11) (q0 := 0) rfl rfl, gz_preF hE hZ hS hA hP hD⟩ rfl rfl hl.1 rfl (lv_room (Nat.le_of_ble_eq_true rfl)) dL_law_293 ⟨(Nat.le_of_ble_eq_true rfl), (Nat.le_of_ble_eq_true rfl)⟩) (fun rm um H locs hm hP hD hS => ?_)
  obtain ⟨hTm, hXm⟩ := hm
  refine lv_pop hx hb dL_law_296 rfl ?_
  refine lv_goto (tgt := 1253) hx hb dL_law_297 (by decide) ?_
  exact K ux um H locs hGx hTm (gLk_mv hLk hXx hXm) hP hD hS
set_option maxHeartbeats 4000000 in
set_option maxRecDepth 100000 in
theorem law_force {p : Program} {e : Env} {s : State} {m : MethodId} {below : List Frame} {meth : Method} {c : Code} (l : Launch) (G : va_G) (k : Nat → ClassId) (sa : Nat → Nat) {b L : Nat} {xs : Nat → Int32} (C0 : lw_At p s m meth c b L xs) (hE : gE G k sa s) {A : Nat → Prop} (hAe : A = fun q => s.heap.size ≤ q) (hZ : gZ sa A s s.heap) (ad am : Nat → Nat) (S T : gS) (hG : gGI ad S) (hT : gGM T) (hLk : gLk S T) (i : Int32) (hi : gIv 0 3066 i) (hiL : i.toInt + 6 ≤ (L : Int)) {H : Heap} {locs : List Loc} {ls : Array Slot} (hP : va_P G vwCl (ggW k ad S ++ mmW k am T) H) (hD : va_D A (ggW k ad S ++ mmW k am T)) (hS : va_S A s.heap H locs) (hl : lv_has ls 4 [(3, .int i), (2, .ref (am 0)), (1, .ref (ad 100)), (0, .ref b)]) (K : ∀ (S' T' : gS) (H' : Heap) (locs' : List Loc), gGI ad S' → gGM T' → gLk S' T' → va_P G vwCl (ggW k ad S' ++ mmW k am T') H' → va_D A (ggW k ad S' ++ mmW k am T') → va_S A s.heap H' locs' → W p l e room_1 s m #[Value.ref b] below meth c H' locs' 285 12688 (lw_Z below #[Value.ref b] s) (F0 m 1253 ls [])) : W p l e room_1 s m #[Value.ref b] below meth c H locs 285 12688 (lw_Z below #[Value.ref b] s) (F0 m 300 ls []) := by
  obtain ⟨hx, hb, hr, hml, hown, hts, hX, hbl, hlocks, hgv⟩ := id C0
  have hA : ∀ q : Nat, s.heap.size ≤ q → A q := by rw [hAe]; exact fun _ h => h
  have hbA : ¬ A b := by rw [hAe]; exact Nat.not_le.mpr hbl
  refine lv_aload_n hx hb dL_law_300 rfl (lv_at hl 2 rfl) ?_
  refine lv_aload_n hx hb dL_law_301 rfl (lv_at hl 3 rfl) ?_
  refine lv_iload_n hx hb dL_law_302 rfl (lv_at hl 0 rfl) ?_
  refine lv_iconst (v := 1) hx hb dL_law_303 (by decide) ?_
  refine lv_iadd hx hb dL_law_304 ?_
  refine lv_topi (fun xa_1 exa_1 => ?_)
  have ixa_1 : xa_1.toInt = i.toInt + 1 := gI_add exa_1 hi (by decide) (by decide)
  refine va_sld hx hb hX hbl hbA hS (vp_in_iff.mpr ⟨by have z := hi.1; omega, by omega⟩) dL_law_305 ?_
  refine lv_topi (fun ya_1 eya_1 => ?_)
  refine gz_iF hP hD hS hA (va_runV (As := [.int ya_1]) (rest := []) ⟨hx, hb, hml, hown, hts⟩ (f_X10_force l G k sa _ ad S hG ya_1) (cwV 1 hts g_L_32_s_X10_force rfl rfl rfl (by decide +kernel) ⟨(Nat.le_of_ble_eq_true rfl), (Nat.le_of_ble_eq_true rfl)⟩) ⟨gP.bl, va_recv hE.K hP (ci := 10) (q0 := 0) rfl rfl, gz_preF hE hZ hS hA hP hD⟩ rfl rfl hl.1 rfl (lv_room (Nat.le_of_ble_eq_true rfl)) dL_law_306 ⟨(Nat.le_of_ble_eq_true rfl), (Nat.le_of_ble_eq_true rfl)⟩) (fun rx ux H locs hx hP hD hS => ?_)
  obtain ⟨hGx, hXx⟩ := hx
  refine lv_pop hx hb dL_law_309 rfl ?_
  refine lv_aload_n hx hb dL_law_310 rfl (lv_at hl 1 rfl) ?_
  refine lv_aload_n hx hb dL_law_311 rfl (lv_at hl 3 rfl) ?_
  refine lv_iload_n hx hb dL_law_312 rfl (lv_at hl 0 rfl) ?_
  refine lv_iconst (v := 1) hx hb dL_law_313 (by decide) ?_
  refine lv_iadd hx hb dL_law_314 ?_
  refine lv_topi (fun xb_1 exb_1 => ?_)
  have ixb_1 : xb_1.toInt = i.toInt + 1 := gI_add exb_1 hi (by decide) (by decide)
  refine va_sld hx hb hX hbl hbA hS (vp_in_iff.mpr ⟨by have z := hi.1; omega, by omega⟩) dL_law_315 ?_
  refine lv_topi (fun yb_1 eyb_1 => ?_)
  refine gz_iF hP hD hS hA (va_runV (As := [.int yb_1]) (rest := []) ⟨hx, hb, hml, hown, hts⟩ (f_X11_force l G k sa _ am T hT.1 hT.2 yb_1) (cwV 1 hts g_L_35_r_force rfl rfl rfl (by decide +kernel) ⟨(Nat.le_of_ble_eq_true rfl), (Nat.le_of_ble_eq_true rfl)⟩) ⟨gP.bl, va_recv hE.K hP (ci := 11) (q0 := 0) rfl rfl, gz_preF hE hZ hS hA hP hD⟩ rfl rfl hl.1 rfl (lv_room (Nat.le_of_ble_eq_true rfl)) dL_law_316 ⟨(Nat.le_of_ble_eq_true rfl), (Nat.le_of_ble_eq_true rfl)⟩) (fun rm um H locs hm hP hD hS => ?_)
  obtain ⟨hTm, hXm⟩ := hm
  refine lv_pop hx hb dL_law_319 rfl ?_
  refine lv_goto (tgt := 1253) hx hb dL_law_320 (by decide) ?_
  exact K ux um H locs hGx hTm (gLk_mv hLk hXx hXm) hP hD hS
set_option maxHeartbeats 4000000 in
set_option maxRecDepth 100000 in
theorem law_person {p : Program} {e : Env} {s : State} {m : MethodId} {below : List Frame} {meth : Method} {c : Code} (l : Launch) (G : va_G) (k : Nat → ClassId) (sa : Nat → Nat) {b L : Nat} {xs : Nat → Int32} (C0 : lw_At p s m meth c b L xs) (hE : gE G k sa s) {A : Nat → Prop} (hAe : A = fun q => s.heap.size ≤ q) (hZ : gZ sa A s s.heap) (ad am : Nat → Nat) (S T : gS) (hG : gGI ad S) (hT : gGM T) (hLk : gLk S T) (i : Int32) (hi : gIv 0 3066 i) (hiL : i.toInt + 6 ≤ (L : Int)) {H : Heap} {locs : List Loc} {ls : Array Slot} (hP : va_P G vwCl (ggW k ad S ++ mmW k am T) H) (hD : va_D A (ggW k ad S ++ mmW k am T)) (hS : va_S A s.heap H locs) (hl : lv_has ls 4 [(3, .int i), (2, .ref (am 0)), (1, .ref (ad 100)), (0, .ref b)]) (K : ∀ (S' T' : gS) (H' : Heap) (locs' : List Loc), gGI ad S' → gGM T' → gLk S' T' → va_P G vwCl (ggW k ad S' ++ mmW k am T') H' → va_D A (ggW k ad S' ++ mmW k am T') → va_S A s.heap H' locs' → W p l e room_1 s m #[Value.ref b] below meth c H' locs' 285 12688 (lw_Z below #[Value.ref b] s) (F0 m 1253 ls [])) : W p l e room_1 s m #[Value.ref b] below meth c H locs 285 12688 (lw_Z below #[Value.ref b] s) (F0 m 323 ls []) := by
  obtain ⟨hx, hb, hr, hml, hown, hts, hX, hbl, hlocks, hgv⟩ := id C0
  have hA : ∀ q : Nat, s.heap.size ≤ q → A q := by rw [hAe]; exact fun _ h => h
  have hbA : ¬ A b := by rw [hAe]; exact Nat.not_le.mpr hbl
  refine lv_aload_n hx hb dL_law_323 rfl (lv_at hl 2 rfl) ?_
  refine lv_aload_n hx hb dL_law_324 rfl (lv_at hl 3 rfl) ?_
  refine lv_iload_n hx hb dL_law_325 rfl (lv_at hl 0 rfl) ?_
  refine lv_iconst (v := 1) hx hb dL_law_326 (by decide) ?_
  refine lv_iadd hx hb dL_law_327 ?_
  refine lv_topi (fun xa_1 exa_1 => ?_)
  have ixa_1 : xa_1.toInt = i.toInt + 1 := gI_add exa_1 hi (by decide) (by decide)
  refine va_sld hx hb hX hbl hbA hS (vp_in_iff.mpr ⟨by have z := hi.1; omega, by omega⟩) dL_law_328 ?_
  refine lv_topi (fun ya_1 eya_1 => ?_)
  refine lv_aload_n hx hb dL_law_329 rfl (lv_at hl 3 rfl) ?_
  refine lv_iload_n hx hb dL_law_330 rfl (lv_at hl 0 rfl) ?_
  refine lv_iconst (v := 2) hx hb dL_law_331 (by decide) ?_
  refine lv_iadd hx hb dL_law_332 ?_
  refine lv_topi (fun xa_2 exa_2 => ?_)
  have ixa_2 : xa_2.toInt = i.toInt + 2 := gI_add exa_2 hi (by decide) (by decide)
  refine va_sld hx hb hX hbl hbA hS (vp_in_iff.mpr ⟨by have z := hi.1; omega, by omega⟩) dL_law_333 ?_
  refine lv_topi (fun ya_2 eya_2 => ?_)
  refine gz_iF hP hD hS hA (va_runV (As := [.int ya_1, .int ya_2]) (rest := []) ⟨hx, hb, hml, hown, hts⟩ (f_X10_person l G k sa _ ad S hG ya_1 ya_2) (cwV 2 hts g_L_36_s_X10_person rfl rfl rfl (by decide +kernel) ⟨(Nat.le_of_ble_eq_true rfl), (Nat.le_of_ble_eq_true rfl)⟩) ⟨gP.bl, va_recv hE.K hP (ci := 10) (q0 := 0) rfl rfl, gz_preF hE hZ hS hA hP hD⟩ rfl rfl hl.1 rfl (lv_room (Nat.le_of_ble_eq_true rfl)) dL_law_334 ⟨(Nat.le_of_ble_eq_true rfl), (Nat.le_of_ble_eq_true rfl)⟩) (fun rx ux H locs hx hP hD hS => ?_)
  obtain ⟨hGx, hXx⟩ := hx
  refine lv_pop hx hb dL_law_337 rfl ?_
  rcases hT.2 with ⟨hz, hun⟩ | hc
  · refine lv_aload_n hx hb dL_law_338 rfl (lv_at hl 1 rfl) ?_
    refine lv_aload_n hx hb dL_law_339 rfl (lv_at hl 3 rfl) ?_
    refine lv_iload_n hx hb dL_law_340 rfl (lv_at hl 0 rfl) ?_
    refine lv_iconst (v := 1) hx hb dL_law_341 (by decide) ?_
    refine lv_iadd hx hb dL_law_342 ?_
    refine lv_topi (fun xb_1 exb_1 => ?_)
    have ixb_1 : xb_1.toInt = i.toInt + 1 := gI_add exb_1 hi (by decide) (by decide)
    refine va_sld hx hb hX hbl hbA hS (vp_in_iff.mpr ⟨by have z := hi.1; omega, by omega⟩) dL_law_343 ?_
    refine lv_topi (fun yb_1 eyb_1 => ?_)
    refine lv_aload_n hx hb dL_law_344 rfl (lv_at hl 3 rfl) ?_
    refine lv_iload_n hx hb dL_law_345 rfl (lv_at hl 0 rfl) ?_
    refine lv_iconst (v := 2) hx hb dL_law_346 (by decide) ?_
    refine lv_iadd hx hb dL_law_347 ?_
    refine lv_topi (fun xb_2 exb_2 => ?_)
    have ixb_2 : xb_2.toInt = i.toInt + 2 := gI_add exb_2 hi (by decide) (by decide)
    refine va_sld hx hb hX hbl hbA hS (vp_in_iff.mpr ⟨by have z := hi.1; omega, by omega⟩) dL_law_348 ?_
    refine lv_topi (fun yb_2 eyb_2 => ?_)
    refine gz_iF hP hD hS hA (va_runV (As := [.int yb_1, .int yb_2]) (rest := []) ⟨hx, hb, hml, hown, hts⟩ (f_X11_person_z l G k sa _ am T hT.1 hz hun yb_1 yb_2) (cwV 2 hts g_L_40_r_person_z rfl rfl rfl (by decide +kernel) ⟨(Nat.le_of_ble_eq_true rfl), (Nat.le_of_ble_eq_true rfl)⟩) ⟨gP.bl, va_recv hE.K hP (ci := 11) (q0 := 0) rfl rfl, gz_preF hE hZ hS hA hP hD⟩ rfl rfl hl.1 rfl (lv_room (Nat.le_of_ble_eq_true rfl)) dL_law_349 ⟨(Nat.le_of_ble_eq_true rfl), (Nat.le_of_ble_eq_true rfl)⟩) (fun rm um H locs hm hP hD hS => ?_)
    obtain ⟨hTm, hXm⟩ := hm
    refine lv_pop hx hb dL_law_352 rfl ?_
    refine lv_goto (tgt := 1253) hx hb dL_law_353 (by decide) ?_
    exact K ux um H locs hGx hTm (gLk_mv hLk hXx hXm) hP hD hS
  · refine lv_aload_n hx hb dL_law_338 rfl (lv_at hl 1 rfl) ?_
    refine lv_aload_n hx hb dL_law_339 rfl (lv_at hl 3 rfl) ?_
    refine lv_iload_n hx hb dL_law_340 rfl (lv_at hl 0 rfl) ?_
    refine lv_iconst (v := 1) hx hb dL_law_341 (by decide) ?_
    refine lv_iadd hx hb dL_law_342 ?_
    refine lv_topi (fun xb_1 exb_1 => ?_)
    have ixb_1 : xb_1.toInt = i.toInt + 1 := gI_add exb_1 hi (by decide) (by decide)
    refine va_sld hx hb hX hbl hbA hS (vp_in_iff.mpr ⟨by have z := hi.1; omega, by omega⟩) dL_law_343 ?_
    refine lv_topi (fun yb_1 eyb_1 => ?_)
    refine lv_aload_n hx hb dL_law_344 rfl (lv_at hl 3 rfl) ?_
    refine lv_iload_n hx hb dL_law_345 rfl (lv_at hl 0 rfl) ?_
    refine lv_iconst (v := 2) hx hb dL_law_346 (by decide) ?_
    refine lv_iadd hx hb dL_law_347 ?_
    refine lv_topi (fun xb_2 exb_2 => ?_)
    have ixb_2 : xb_2.toInt = i.toInt + 2 := gI_add exb_2 hi (by decide) (by decide)
    refine va_sld hx hb hX hbl hbA hS (vp_in_iff.mpr ⟨by have z := hi.1; omega, by omega⟩) dL_law_348 ?_
    refine lv_topi (fun yb_2 eyb_2 => ?_)
    refine gz_iF hP hD hS hA (va_runV (As := [.int yb_1, .int yb_2]) (rest := []) ⟨hx, hb, hml, hown, hts⟩ (f_X11_person_c l G k sa _ am T hT.1 hc yb_1 yb_2) (cwV 2 hts g_L_40_r_person_c rfl rfl rfl (by decide +kernel) ⟨(Nat.le_of_ble_eq_true rfl), (Nat.le_of_ble_eq_true rfl)⟩) ⟨gP.bl, va_recv hE.K hP (ci := 11) (q0 := 0) rfl rfl, gz_preF hE hZ hS hA hP hD⟩ rfl rfl hl.1 rfl (lv_room (Nat.le_of_ble_eq_true rfl)) dL_law_349 ⟨(Nat.le_of_ble_eq_true rfl), (Nat.le_of_ble_eq_true rfl)⟩) (fun rm um H locs hm hP hD hS => ?_)
    obtain ⟨hTm, hXm⟩ := hm
    refine lv_pop hx hb dL_law_352 rfl ?_
    refine lv_goto (tgt := 1253) hx hb dL_law_353 (by decide) ?_
    exact K ux um H locs hGx hTm (gLk_mv hLk hXx hXm) hP hD hS
