set_option maxHeartbeats 4000000 in
set_option maxRecDepth 100000 in
theorem law_wind {p : Program} {e : Env} {s : State} {m : MethodId} {below : List Frame} {meth : Method} {c : Code} (l : Launch) (G : va_G) (k : Nat → ClassId) (sa : Nat → Nat) {b L : Nat} {xs : Nat → Int32} (C0 : lw_At p s m meth c b L xs) (hE : gE G k sa s) {A : Nat → Prop} (hAe : A = fun q => s.heap.size ≤ q) (hZ : gZ sa A s s.heap) (ad am : Nat → Nat) (S T : gS) (hG : gGI ad S) (hT : gGM T) (hLk : gLk S T) (i : Int32) (hi : gIv 0 3066 i) (hiL : i.toInt + 6 ≤ (L : Int)) {H : Heap} {locs : List Loc} {ls : Array Slot} (hP : va_P G vwCl (ggW k ad S ++ mmW k am T) H) (hD : va_D A (ggW k ad S ++ mmW k am T)) (hS : va_S A s.heap H locs) (hl : lv_has ls 4 [(3, .int i), (2, .ref (am 0)), (1, .ref (ad 100)), (0, .ref b)]) (K : ∀ (S' T' : gS) (H' : Heap) (locs' : List Loc), gGI ad S' → gGM T' → gLk S' T' → va_P G vwCl (ggW k ad S' ++ mmW k am T') H' → va_D A (ggW k ad S' ++ mmW k am T') → va_S A s.heap H' locs' → W p l e room_1 s m #[Value.ref b] below meth c H' locs' 285 12688 (lw_Z below #[Value.ref b] s) (F0 m 1253 ls [])) : W p l e room_1 s m #[Value.ref b] below meth c H locs 285 12688 (lw_Z below #[Value.ref b] s) (F0 m 356 ls []) := by
  obtain ⟨hx, hb, hr, hml, hown, hts, hX, hbl, hlocks, hgv⟩ := id C0
  have hA : ∀ q : Nat, s.heap.size ≤ q → A q := by rw [hAe]; exact fun _ h => h
  have hbA : ¬ A b := by rw [hAe]; exact Nat.not_le.mpr hbl
  refine lv_aload_n hx hb dL_law_356 rfl (lv_at hl 2 rfl) ?_
  refine lv_aload_n hx hb dL_law_357 rfl (lv_at hl 3 rfl) ?_
  refine lv_iload_n hx hb dL_law_358 rfl (lv_at hl 0 rfl) ?_
  refine lv_iconst (v := 1) hx hb dL_law_359 (by decide) ?_
  refine lv_iadd hx hb dL_law_360 ?_
  refine lv_topi (fun xa_1 exa_1 => ?_)
  have ixa_1 : xa_1.toInt = i.toInt + 1 := gI_add exa_1 hi (by decide) (by decide)
  refine va_sld hx hb hX hbl hbA hS (vp_in_iff.mpr ⟨by have z := hi.1; omega, by omega⟩) dL_law_361 ?_
  refine lv_topi (fun ya_1 eya_1 => ?_)
  refine lv_aload_n hx hb dL_law_362 rfl (lv_at hl 3 rfl) ?_
  refine lv_iload_n hx hb dL_law_363 rfl (lv_at hl 0 rfl) ?_
  refine lv_iconst (v := 2) hx hb dL_law_364 (by decide) ?_
  refine lv_iadd hx hb dL_law_365 ?_
  refine lv_topi (fun xa_2 exa_2 => ?_)
  have ixa_2 : xa_2.toInt = i.toInt + 2 := gI_add exa_2 hi (by decide) (by decide)
  refine va_sld hx hb hX hbl hbA hS (vp_in_iff.mpr ⟨by have z := hi.1; omega, by omega⟩) dL_law_366 ?_
  refine lv_topi (fun ya_2 eya_2 => ?_)
  refine gz_iF hP hD hS hA (va_runV (As := [.int ya_1, .int ya_2]) (rest := []) ⟨hx, hb, hml, hown, hts⟩ (f_X10_wind l G k sa _ ad S hG ya_1 ya_2) (cwV 2 hts g_L_41_s_X10_wind rfl rfl rfl (by decide +kernel) ⟨(Nat.le_of_ble_eq_true rfl), (Nat.le_of_ble_eq_true rfl)⟩) ⟨gP.bl, va_recv hE.K hP (ci := 10) (q0 := 0) rfl rfl, gz_preF hE hZ hS hA hP hD⟩ rfl rfl hl.1 rfl (lv_room (Nat.le_of_ble_eq_true rfl)) dL_law_367 ⟨(Nat.le_of_ble_eq_true rfl), (Nat.le_of_ble_eq_true rfl)⟩) (fun rx ux H locs hx hP hD hS => ?_)
  obtain ⟨hGx, hXx⟩ := hx
  refine lv_pop hx hb dL_law_370 rfl ?_
  rcases hT.2 with ⟨hz, hun⟩ | hc
  · refine lv_aload_n hx hb dL_law_371 rfl (lv_at hl 1 rfl) ?_
    refine lv_aload_n hx hb dL_law_372 rfl (lv_at hl 3 rfl) ?_
    refine lv_iload_n hx hb dL_law_373 rfl (lv_at hl 0 rfl) ?_
    refine lv_iconst (v := 1) hx hb dL_law_374 (by decide) ?_
    refine lv_iadd hx hb dL_law_375 ?_
    refine lv_topi (fun xb_1 exb_1 => ?_)
    have ixb_1 : xb_1.toInt = i.toInt + 1 := gI_add exb_1 hi (by decide) (by decide)
    refine va_sld hx hb hX hbl hbA hS (vp_in_iff.mpr ⟨by have z := hi.1; omega, by omega⟩) dL_law_376 ?_
    refine lv_topi (fun yb_1 eyb_1 => ?_)
    refine lv_aload_n hx hb dL_law_377 rfl (lv_at hl 3 rfl) ?_
    refine lv_iload_n hx hb dL_law_378 rfl (lv_at hl 0 rfl) ?_
    refine lv_iconst (v := 2) hx hb dL_law_379 (by decide) ?_
    refine lv_iadd hx hb dL_law_380 ?_
    refine lv_topi (fun xb_2 exb_2 => ?_)
    have ixb_2 : xb_2.toInt = i.toInt + 2 := gI_add exb_2 hi (by decide) (by decide)
    refine va_sld hx hb hX hbl hbA hS (vp_in_iff.mpr ⟨by have z := hi.1; omega, by omega⟩) dL_law_381 ?_
    refine lv_topi (fun yb_2 eyb_2 => ?_)
    refine gz_iF hP hD hS hA (va_runV (As := [.int yb_1, .int yb_2]) (rest := []) ⟨hx, hb, hml, hown, hts⟩ (f_X11_wind_z l G k sa _ am T hT.1 hz hun yb_1 yb_2) (cwV 2 hts g_L_44_r_wind_z rfl rfl rfl (by decide +kernel) ⟨(Nat.le_of_ble_eq_true rfl), (Nat.le_of_ble_eq_true rfl)⟩) ⟨gP.bl, va_recv hE.K hP (ci := 11) (q0 := 0) rfl rfl, gz_preF hE hZ hS hA hP hD⟩ rfl rfl hl.1 rfl (lv_room (Nat.le_of_ble_eq_true rfl)) dL_law_382 ⟨(Nat.le_of_ble_eq_true rfl), (Nat.le_of_ble_eq_true rfl)⟩) (fun rm um H locs hm hP hD hS => ?_)
    obtain ⟨hTm, hXm⟩ := hm
    refine lv_pop hx hb dL_law_385 rfl ?_
    refine lv_goto (tgt := 1253) hx hb dL_law_386 (by decide) ?_
    exact K ux um H locs hGx hTm (gLk_mv hLk hXx hXm) hP hD hS
  · refine lv_aload_n hx hb dL_law_371 rfl (lv_at hl 1 rfl) ?_
    refine lv_aload_n hx hb dL_law_372 rfl (lv_at hl 3 rfl) ?_
    refine lv_iload_n hx hb dL_law_373 rfl (lv_at hl 0 rfl) ?_
    refine lv_iconst (v := 1) hx hb dL_law_374 (by decide) ?_
    refine lv_iadd hx hb dL_law_375 ?_
    refine lv_topi (fun xb_1 exb_1 => ?_)
    have ixb_1 : xb_1.toInt = i.toInt + 1 := gI_add exb_1 hi (by decide) (by decide)
    refine va_sld hx hb hX hbl hbA hS (vp_in_iff.mpr ⟨by have z := hi.1; omega, by omega⟩) dL_law_376 ?_
    refine lv_topi (fun yb_1 eyb_1 => ?_)
    refine lv_aload_n hx hb dL_law_377 rfl (lv_at hl 3 rfl) ?_
    refine lv_iload_n hx hb dL_law_378 rfl (lv_at hl 0 rfl) ?_
    refine lv_iconst (v := 2) hx hb dL_law_379 (by decide) ?_
    refine lv_iadd hx hb dL_law_380 ?_
    refine lv_topi (fun xb_2 exb_2 => ?_)
    have ixb_2 : xb_2.toInt = i.toInt + 2 := gI_add exb_2 hi (by decide) (by decide)
    refine va_sld hx hb hX hbl hbA hS (vp_in_iff.mpr ⟨by have z := hi.1; omega, by omega⟩) dL_law_381 ?_
    refine lv_topi (fun yb_2 eyb_2 => ?_)
    refine gz_iF hP hD hS hA (va_runV (As := [.int yb_1, .int yb_2]) (rest := []) ⟨hx, hb, hml, hown, hts⟩ (f_X11_wind_c l G k sa _ am T hT.1 hc yb_1 yb_2) (cwV 2 hts g_L_44_r_wind_c rfl rfl rfl (by decide +kernel) ⟨(Nat.le_of_ble_eq_true rfl), (Nat.le_of_ble_eq_true rfl)⟩) ⟨gP.bl, va_recv hE.K hP (ci := 11) (q0 := 0) rfl rfl, gz_preF hE hZ hS hA hP hD⟩ rfl rfl hl.1 rfl (lv_room (Nat.le_of_ble_eq_true rfl)) dL_law_382 ⟨(Nat.le_of_ble_eq_true rfl), (Nat.le_of_ble_eq_true rfl)⟩) (fun rm um H locs hm hP hD hS => ?_)
    obtain ⟨hTm, hXm⟩ := hm
    refine lv_pop hx hb dL_law_385 rfl ?_
    refine lv_goto (tgt := 1253) hx hb dL_law_386 (by decide) ?_
    exact K ux um H locs hGx hTm (gLk_mv hLk hXx hXm) hP hD hS
set_option maxHeartbeats 4000000 in
set_option maxRecDepth 100000 in
theorem law_gateIn {p : Program} {e : Env} {s : State} {m : MethodId} {below : List Frame} {meth : Method} {c : Code} (l : Launch) (G : va_G) (k : Nat → ClassId) (sa : Nat → Nat) {b L : Nat} {xs : Nat → Int32} (C0 : lw_At p s m meth c b L xs) (hE : gE G k sa s) {A : Nat → Prop} (hAe : A = fun q => s.heap.size ≤ q) (hZ : gZ sa A s s.heap) (ad am : Nat → Nat) (S T : gS) (hG : gGI ad S) (hT : gGM T) (hLk : gLk S T) (i : Int32) (hi : gIv 0 3066 i) (hiL : i.toInt + 6 ≤ (L : Int)) {H : Heap} {locs : List Loc} {ls : Array Slot} (hP : va_P G vwCl (ggW k ad S ++ mmW k am T) H) (hD : va_D A (ggW k ad S ++ mmW k am T)) (hS : va_S A s.heap H locs) (hl : lv_has ls 4 [(3, .int i), (2, .ref (am 0)), (1, .ref (ad 100)), (0, .ref b)]) (K : ∀ (S' T' : gS) (H' : Heap) (locs' : List Loc), gGI ad S' → gGM T' → gLk S' T' → va_P G vwCl (ggW k ad S' ++ mmW k am T') H' → va_D A (ggW k ad S' ++ mmW k am T') → va_S A s.heap H' locs' → W p l e room_1 s m #[Value.ref b] below meth c H' locs' 285 12688 (lw_Z below #[Value.ref b] s) (F0 m 1253 ls [])) : W p l e room_1 s m #[Value.ref b] below meth c H locs 285 12688 (lw_Z below #[Value.ref b] s) (F0 m 389 ls []) := by
  obtain ⟨hx, hb, hr, hml, hown, hts, hX, hbl, hlocks, hgv⟩ := id C0
  have hA : ∀ q : Nat, s.heap.size ≤ q → A q := by rw [hAe]; exact fun _ h => h
  have hbA : ¬ A b := by rw [hAe]; exact Nat.not_le.mpr hbl
  refine lv_aload_n hx hb dL_law_389 rfl (lv_at hl 2 rfl) ?_
  refine lv_aload_n hx hb dL_law_390 rfl (lv_at hl 3 rfl) ?_
  refine lv_iload_n hx hb dL_law_391 rfl (lv_at hl 0 rfl) ?_
  refine lv_iconst (v := 1) hx hb dL_law_392 (by decide) ?_
  refine lv_iadd hx hb dL_law_393 ?_
  refine lv_topi (fun xa_1 exa_1 => ?_)
  have ixa_1 : xa_1.toInt = i.toInt + 1 := gI_add exa_1 hi (by decide) (by decide)
  refine va_sld hx hb hX hbl hbA hS (vp_in_iff.mpr ⟨by have z := hi.1; omega, by omega⟩) dL_law_394 ?_
  refine lv_topi (fun ya_1 eya_1 => ?_)
  refine gz_iF hP hD hS hA (va_runV (As := [.int ya_1]) (rest := []) ⟨hx, hb, hml, hown, hts⟩ (f_X10_gateIn l G k sa _ ad S hG ya_1) (cwV 1 hts g_L_45_s_X10_gateIn rfl rfl rfl (by decide +kernel) ⟨(Nat.le_of_ble_eq_true rfl), (Nat.le_of_ble_eq_true rfl)⟩) ⟨gP.bl, va_recv hE.K hP (ci := 10) (q0 := 0) rfl rfl, gz_preF hE hZ hS hA hP hD⟩ rfl rfl hl.1 rfl (lv_room (Nat.le_of_ble_eq_true rfl)) dL_law_395 ⟨(Nat.le_of_ble_eq_true rfl), (Nat.le_of_ble_eq_true rfl)⟩) (fun rx ux H locs hx hP hD hS => ?_)
  obtain ⟨hGx, hXx⟩ := hx
  refine lv_pop hx hb dL_law_398 rfl ?_
  rcases hT.2 with ⟨hz, hun⟩ | hc
  · refine lv_aload_n hx hb dL_law_399 rfl (lv_at hl 1 rfl) ?_
    refine lv_aload_n hx hb dL_law_400 rfl (lv_at hl 3 rfl) ?_
    refine lv_iload_n hx hb dL_law_401 rfl (lv_at hl 0 rfl) ?_
    refine lv_iconst (v := 1) hx hb dL_law_402 (by decide) ?_
    refine lv_iadd hx hb dL_law_403 ?_
    refine lv_topi (fun xb_1 exb_1 => ?_)
    have ixb_1 : xb_1.toInt = i.toInt + 1 := gI_add exb_1 hi (by decide) (by decide)
    refine va_sld hx hb hX hbl hbA hS (vp_in_iff.mpr ⟨by have z := hi.1; omega, by omega⟩) dL_law_404 ?_
    refine lv_topi (fun yb_1 eyb_1 => ?_)
    refine gz_iF hP hD hS hA (va_runV (As := [.int yb_1]) (rest := []) ⟨hx, hb, hml, hown, hts⟩ (f_X11_gateIn_z l G k sa _ am T hT.1 hz hun yb_1) (cwV 1 hts g_L_48_r_gateIn_z rfl rfl rfl (by decide +kernel) ⟨(Nat.le_of_ble_eq_true rfl), (Nat.le_of_ble_eq_true rfl)⟩) ⟨gP.bl, va_recv hE.K hP (ci := 11) (q0 := 0) rfl rfl, gz_preF hE hZ hS hA hP hD⟩ rfl rfl hl.1 rfl (lv_room (Nat.le_of_ble_eq_true rfl)) dL_law_405 ⟨(Nat.le_of_ble_eq_true rfl), (Nat.le_of_ble_eq_true rfl)⟩) (fun rm um H locs hm hP hD hS => ?_)
    obtain ⟨hTm, hXm⟩ := hm
    refine lv_pop hx hb dL_law_408 rfl ?_
    refine lv_goto (tgt := 1253) hx hb dL_law_409 (by decide) ?_
    exact K ux um H locs hGx hTm (gLk_mv hLk hXx hXm) hP hD hS
  · refine lv_aload_n hx hb dL_law_399 rfl (lv_at hl 1 rfl) ?_
    refine lv_aload_n hx hb dL_law_400 rfl (lv_at hl 3 rfl) ?_
    refine lv_iload_n hx hb dL_law_401 rfl (lv_at hl 0 rfl) ?_
    refine lv_iconst (v := 1) hx hb dL_law_402 (by decide) ?_
    refine lv_iadd hx hb dL_law_403 ?_
    refine lv_topi (fun xb_1 exb_1 => ?_)
    have ixb_1 : xb_1.toInt = i.toInt + 1 := gI_add exb_1 hi (by decide) (by decide)
    refine va_sld hx hb hX hbl hbA hS (vp_in_iff.mpr ⟨by have z := hi.1; omega, by omega⟩) dL_law_404 ?_
    refine lv_topi (fun yb_1 eyb_1 => ?_)
    refine gz_iF hP hD hS hA (va_runV (As := [.int yb_1]) (rest := []) ⟨hx, hb, hml, hown, hts⟩ (f_X11_gateIn_c l G k sa _ am T hT.1 hc yb_1) (cwV 1 hts g_L_48_r_gateIn_c rfl rfl rfl (by decide +kernel) ⟨(Nat.le_of_ble_eq_true rfl), (Nat.le_of_ble_eq_true rfl)⟩) ⟨gP.bl, va_recv hE.K hP (ci := 11) (q0 := 0) rfl rfl, gz_preF hE hZ hS hA hP hD⟩ rfl rfl hl.1 rfl (lv_room (Nat.le_of_ble_eq_true rfl)) dL_law_405 ⟨(Nat.le_of_ble_eq_true rfl), (Nat.le_of_ble_eq_true rfl)⟩) (fun rm um H locs hm hP hD hS => ?_)
    obtain ⟨hTm, hXm⟩ := hm
    refine lv_pop hx hb dL_law_408 rfl ?_
    refine lv_goto (tgt := 1253) hx hb dL_law_409 (by decide) ?_
    exact K ux um H locs hGx hTm (gLk_mv hLk hXx hXm) hP hD hS
set_option maxHeartbeats 4000000 in
set_option maxRecDepth 100000 in
theorem law_hour {p : Program} {e : Env} {s : State} {m : MethodId} {below : List Frame} {meth : Method} {c : Code} (l : Launch) (G : va_G) (k : Nat → ClassId) (sa : Nat → Nat) {b L : Nat} {xs : Nat → Int32} (C0 : lw_At p s m meth c b L xs) (hE : gE G k sa s) {A : Nat → Prop} (hAe : A = fun q => s.heap.size ≤ q) (hZ : gZ sa A s s.heap) (ad am : Nat → Nat) (S T : gS) (hG : gGI ad S) (hT : gGM T) (hLk : gLk S T) (i : Int32) (hi : gIv 0 3066 i) (hiL : i.toInt + 6 ≤ (L : Int)) {H : Heap} {locs : List Loc} {ls : Array Slot} (hP : va_P G vwCl (ggW k ad S ++ mmW k am T) H) (hD : va_D A (ggW k ad S ++ mmW k am T)) (hS : va_S A s.heap H locs) (hl : lv_has ls 4 [(3, .int i), (2, .ref (am 0)), (1, .ref (ad 100)), (0, .ref b)]) (K : ∀ (S' T' : gS) (H' : Heap) (locs' : List Loc), gGI ad S' → gGM T' → gLk S' T' → va_P G vwCl (ggW k ad S' ++ mmW k am T') H' → va_D A (ggW k ad S' ++ mmW k am T') → va_S A s.heap H' locs' → W p l e room_1 s m #[Value.ref b] below meth c H' locs' 285 12688 (lw_Z below #[Value.ref b] s) (F0 m 1253 ls [])) : W p l e room_1 s m #[Value.ref b] below meth c H locs 285 12688 (lw_Z below #[Value.ref b] s) (F0 m 412 ls []) := by
  obtain ⟨hx, hb, hr, hml, hown, hts, hX, hbl, hlocks, hgv⟩ := id C0
  have hA : ∀ q : Nat, s.heap.size ≤ q → A q := by rw [hAe]; exact fun _ h => h
  have hbA : ¬ A b := by rw [hAe]; exact Nat.not_le.mpr hbl
  refine lv_aload_n hx hb dL_law_412 rfl (lv_at hl 2 rfl) ?_
  refine gz_iF hP hD hS hA (va_runV (As := []) (rest := []) ⟨hx, hb, hml, hown, hts⟩ (f_X10_hour l G k sa _ ad S hG) (cwV 0 hts g_L_49_s_X10_hour rfl rfl rfl (by decide +kernel) ⟨(Nat.le_of_ble_eq_true rfl), (Nat.le_of_ble_eq_true rfl)⟩) ⟨gP.bl, va_recv hE.K hP (ci := 10) (q0 := 0) rfl rfl, gz_preF hE hZ hS hA hP hD⟩ rfl rfl hl.1 rfl (lv_room (Nat.le_of_ble_eq_true rfl)) dL_law_413 ⟨(Nat.le_of_ble_eq_true rfl), (Nat.le_of_ble_eq_true rfl)⟩) (fun rx ux H locs hx hP hD hS => ?_)
  obtain ⟨hGx, hXx⟩ := hx
  refine lv_pop hx hb dL_law_416 rfl ?_
  rcases hT.2 with ⟨hz, hun⟩ | hc
  · refine lv_aload_n hx hb dL_law_417 rfl (lv_at hl 1 rfl) ?_
    refine gz_iF hP hD hS hA (va_runV (As := []) (rest := []) ⟨hx, hb, hml, hown, hts⟩ (f_X11_hour_z l G k sa _ am T hT.1 hz hun) (cwV 0 hts g_L_52_r_hour_z rfl rfl rfl (by decide +kernel) ⟨(Nat.le_of_ble_eq_true rfl), (Nat.le_of_ble_eq_true rfl)⟩) ⟨gP.bl, va_recv hE.K hP (ci := 11) (q0 := 0) rfl rfl, gz_preF hE hZ hS hA hP hD⟩ rfl rfl hl.1 rfl (lv_room (Nat.le_of_ble_eq_true rfl)) dL_law_418 ⟨(Nat.le_of_ble_eq_true rfl), (Nat.le_of_ble_eq_true rfl)⟩) (fun rm um H locs hm hP hD hS => ?_)
    obtain ⟨hTm, hXm⟩ := hm
    refine lv_pop hx hb dL_law_421 rfl ?_
    refine lv_goto (tgt := 1253) hx hb dL_law_422 (by decide) ?_
    exact K ux um H locs hGx hTm (gLk_mv hLk hXx hXm) hP hD hS
  · refine lv_aload_n hx hb dL_law_417 rfl (lv_at hl 1 rfl) ?_
    refine gz_iF hP hD hS hA (va_runV (As := []) (rest := []) ⟨hx, hb, hml, hown, hts⟩ (f_X11_hour_c l G k sa _ am T hT.1 hc) (cwV 0 hts g_L_52_r_hour_c rfl rfl rfl (by decide +kernel) ⟨(Nat.le_of_ble_eq_true rfl), (Nat.le_of_ble_eq_true rfl)⟩) ⟨gP.bl, va_recv hE.K hP (ci := 11) (q0 := 0) rfl rfl, gz_preF hE hZ hS hA hP hD⟩ rfl rfl hl.1 rfl (lv_room (Nat.le_of_ble_eq_true rfl)) dL_law_418 ⟨(Nat.le_of_ble_eq_true rfl), (Nat.le_of_ble_eq_true rfl)⟩) (fun rm um H locs hm hP hD hS => ?_)
    obtain ⟨hTm, hXm⟩ := hm
    refine lv_pop hx hb dL_law_421 rfl ?_
    refine lv_goto (tgt := 1253) hx hb dL_law_422 (by decide) ?_
    exact K ux um H locs hGx hTm (gLk_mv hLk hXx hXm) hP hD hS
set_option maxHeartbeats 4000000 in
set_option maxRecDepth 100000 in
theorem law_tell {p : Program} {e : Env} {s : State} {m : MethodId} {below : List Frame} {meth : Method} {c : Code} (l : Launch) (G : va_G) (k : Nat → ClassId) (sa : Nat → Nat) {b L : Nat} {xs : Nat → Int32} (C0 : lw_At p s m meth c b L xs) (hE : gE G k sa s) {A : Nat → Prop} (hAe : A = fun q => s.heap.size ≤ q) (hZ : gZ sa A s s.heap) (ad am : Nat → Nat) (S T : gS) (hG : gGI ad S) (hT : gGM T) (hLk : gLk S T) (i : Int32) (hi : gIv 0 3066 i) (hiL : i.toInt + 6 ≤ (L : Int)) {H : Heap} {locs : List Loc} {ls : Array Slot} (hP : va_P G vwCl (ggW k ad S ++ mmW k am T) H) (hD : va_D A (ggW k ad S ++ mmW k am T)) (hS : va_S A s.heap H locs) (hl : lv_has ls 4 [(3, .int i), (2, .ref (am 0)), (1, .ref (ad 100)), (0, .ref b)]) (K : ∀ (S' T' : gS) (H' : Heap) (locs' : List Loc), gGI ad S' → gGM T' → gLk S' T' → va_P G vwCl (ggW k ad S' ++ mmW k am T') H' → va_D A (ggW k ad S' ++ mmW k am T') → va_S A s.heap H' locs' → W p l e room_1 s m #[Value.ref b] below meth c H' locs' 285 12688 (lw_Z below #[Value.ref b] s) (F0 m 1253 ls [])) : W p l e room_1 s m #[Value.ref b] below meth c H locs 285 12688 (lw_Z below #[Value.ref b] s) (F0 m 425 ls []) := by
  obtain ⟨hx, hb, hr, hml, hown, hts, hX, hbl, hlocks, hgv⟩ := id C0
  have hA : ∀ q : Nat, s.heap.size ≤ q → A q := by rw [hAe]; exact fun _ h => h
  have hbA : ¬ A b := by rw [hAe]; exact Nat.not_le.mpr hbl
  refine lv_aload_n hx hb dL_law_425 rfl (lv_at hl 2 rfl) ?_
  refine lv_aload_n hx hb dL_law_426 rfl (lv_at hl 3 rfl) ?_
  refine lv_iload_n hx hb dL_law_427 rfl (lv_at hl 0 rfl) ?_
  refine lv_iconst (v := 1) hx hb dL_law_428 (by decide) ?_
  refine lv_iadd hx hb dL_law_429 ?_
  refine lv_topi (fun xa_1 exa_1 => ?_)
  have ixa_1 : xa_1.toInt = i.toInt + 1 := gI_add exa_1 hi (by decide) (by decide)
  refine va_sld hx hb hX hbl hbA hS (vp_in_iff.mpr ⟨by have z := hi.1; omega, by omega⟩) dL_law_430 ?_
  refine lv_topi (fun ya_1 eya_1 => ?_)
  refine lv_aload_n hx hb dL_law_431 rfl (lv_at hl 3 rfl) ?_
  refine lv_iload_n hx hb dL_law_432 rfl (lv_at hl 0 rfl) ?_
  refine lv_iconst (v := 2) hx hb dL_law_433 (by decide) ?_
  refine lv_iadd hx hb dL_law_434 ?_
  refine lv_topi (fun xa_2 exa_2 => ?_)
  have ixa_2 : xa_2.toInt = i.toInt + 2 := gI_add exa_2 hi (by decide) (by decide)
  refine va_sld hx hb hX hbl hbA hS (vp_in_iff.mpr ⟨by have z := hi.1; omega, by omega⟩) dL_law_435 ?_
  refine lv_topi (fun ya_2 eya_2 => ?_)
  refine gz_iF hP hD hS hA (va_runV (As := [.int ya_1, .int ya_2]) (rest := []) ⟨hx, hb, hml, hown, hts⟩ (f_X10_tell l G k sa _ ad S hG ya_1 ya_2) (cwV 2 hts g_L_53_s_X10_tell rfl rfl rfl (by decide +kernel) ⟨(Nat.le_of_ble_eq_true rfl), (Nat.le_of_ble_eq_true rfl)⟩) ⟨gP.bl, va_recv hE.K hP (ci := 10) (q0 := 0) rfl rfl, gz_preF hE hZ hS hA hP hD⟩ rfl rfl hl.1 rfl (lv_room (Nat.le_of_ble_eq_true rfl)) dL_law_436 ⟨(Nat.le_of_ble_eq_true rfl), (Nat.le_of_ble_eq_true rfl)⟩) (fun rx ux H locs hx hP hD hS => ?_)
  obtain ⟨hGx, hXx⟩ := hx
  refine lv_pop hx hb dL_law_439 rfl ?_
  rcases hT.2 with ⟨hz, hun⟩ | hc
  · refine lv_aload_n hx hb dL_law_440 rfl (lv_at hl 1 rfl) ?_
    refine lv_aload_n hx hb dL_law_441 rfl (lv_at hl 3 rfl) ?_
    refine lv_iload_n hx hb dL_law_442 rfl (lv_at hl 0 rfl) ?_
    refine lv_iconst (v := 1) hx hb dL_law_443 (by decide) ?_
    refine lv_iadd hx hb dL_law_444 ?_
    refine lv_topi (fun xb_1 exb_1 => ?_)
    have ixb_1 : xb_1.toInt = i.toInt + 1 := gI_add exb_1 hi (by decide) (by decide)
    refine va_sld hx hb hX hbl hbA hS (vp_in_iff.mpr ⟨by have z := hi.1; omega, by omega⟩) dL_law_445 ?_
    refine lv_topi (fun yb_1 eyb_1 => ?_)
    refine lv_aload_n hx hb dL_law_446 rfl (lv_at hl 3 rfl) ?_
    refine lv_iload_n hx hb dL_law_447 rfl (lv_at hl 0 rfl) ?_
    refine lv_iconst (v := 2) hx hb dL_law_448 (by decide) ?_
    refine lv_iadd hx hb dL_law_449 ?_
    refine lv_topi (fun xb_2 exb_2 => ?_)
    have ixb_2 : xb_2.toInt = i.toInt + 2 := gI_add exb_2 hi (by decide) (by decide)
    refine va_sld hx hb hX hbl hbA hS (vp_in_iff.mpr ⟨by have z := hi.1; omega, by omega⟩) dL_law_450 ?_
    refine lv_topi (fun yb_2 eyb_2 => ?_)
    refine gz_iF hP hD hS hA (va_runV (As := [.int yb_1, .int yb_2]) (rest := []) ⟨hx, hb, hml, hown, hts⟩ (f_X11_tell_z l G k sa _ am T hT.1 hz hun yb_1 yb_2) (cwV 2 hts g_L_56_r_tell_z rfl rfl rfl (by decide +kernel) ⟨(Nat.le_of_ble_eq_true rfl), (Nat.le_of_ble_eq_true rfl)⟩) ⟨gP.bl, va_recv hE.K hP (ci := 11) (q0 := 0) rfl rfl, gz_preF hE hZ hS hA hP hD⟩ rfl rfl hl.1 rfl (lv_room (Nat.le_of_ble_eq_true rfl)) dL_law_451 ⟨(Nat.le_of_ble_eq_true rfl), (Nat.le_of_ble_eq_true rfl)⟩) (fun rm um H locs hm hP hD hS => ?_)
    obtain ⟨hTm, hXm⟩ := hm
    refine lv_pop hx hb dL_law_454 rfl ?_
    refine lv_goto (tgt := 1253) hx hb dL_law_455 (by decide) ?_
    exact K ux um H locs hGx hTm (gLk_mv hLk hXx hXm) hP hD hS
  · refine lv_aload_n hx hb dL_law_440 rfl (lv_at hl 1 rfl) ?_
    refine lv_aload_n hx hb dL_law_441 rfl (lv_at hl 3 rfl) ?_
    refine lv_iload_n hx hb dL_law_442 rfl (lv_at hl 0 rfl) ?_
    refine lv_iconst (v := 1) hx hb dL_law_443 (by decide) ?_
    refine lv_iadd hx hb dL_law_444 ?_
    refine lv_topi (fun xb_1 exb_1 => ?_)
    have ixb_1 : xb_1.toInt = i.toInt + 1 := gI_add exb_1 hi (by decide) (by decide)
    refine va_sld hx hb hX hbl hbA hS (vp_in_iff.mpr ⟨by have z := hi.1; omega, by omega⟩) dL_law_445 ?_
    refine lv_topi (fun yb_1 eyb_1 => ?_)
    refine lv_aload_n hx hb dL_law_446 rfl (lv_at hl 3 rfl) ?_
    refine lv_iload_n hx hb dL_law_447 rfl (lv_at hl 0 rfl) ?_
    refine lv_iconst (v := 2) hx hb dL_law_448 (by decide) ?_
    refine lv_iadd hx hb dL_law_449 ?_
    refine lv_topi (fun xb_2 exb_2 => ?_)
    have ixb_2 : xb_2.toInt = i.toInt + 2 := gI_add exb_2 hi (by decide) (by decide)
    refine va_sld hx hb hX hbl hbA hS (vp_in_iff.mpr ⟨by have z := hi.1; omega, by omega⟩) dL_law_450 ?_
    refine lv_topi (fun yb_2 eyb_2 => ?_)
    refine gz_iF hP hD hS hA (va_runV (As := [.int yb_1, .int yb_2]) (rest := []) ⟨hx, hb, hml, hown, hts⟩ (f_X11_tell_c l G k sa _ am T hT.1 hc yb_1 yb_2) (cwV 2 hts g_L_56_r_tell_c rfl rfl rfl (by decide +kernel) ⟨(Nat.le_of_ble_eq_true rfl), (Nat.le_of_ble_eq_true rfl)⟩) ⟨gP.bl, va_recv hE.K hP (ci := 11) (q0 := 0) rfl rfl, gz_preF hE hZ hS hA hP hD⟩ rfl rfl hl.1 rfl (lv_room (Nat.le_of_ble_eq_true rfl)) dL_law_451 ⟨(Nat.le_of_ble_eq_true rfl), (Nat.le_of_ble_eq_true rfl)⟩) (fun rm um H locs hm hP hD hS => ?_)
    obtain ⟨hTm, hXm⟩ := hm
    refine lv_pop hx hb dL_law_454 rfl ?_
    refine lv_goto (tgt := 1253) hx hb dL_law_455 (by decide) ?_
    exact K ux um H locs hGx hTm (gLk_mv hLk hXx hXm) hP hD hS
set_option maxHeartbeats 4000000 in
set_option maxRecDepth 100000 in
theorem law_save {p : Program} {e : Env} {s : State} {m : MethodId} {below : List Frame} {meth : Method} {c : Code} (l : Launch) (G : va_G) (k : Nat → ClassId) (sa : Nat → Nat) {b L : Nat} {xs : Nat → Int32} (C0 : lw_At p s m meth c b L xs) (hE : gE G k sa s) {A : Nat → Prop} (hAe : A = fun q => s.heap.size ≤ q) (hZ : gZ sa A s s.heap) (ad am : Nat → Nat) (S T : gS) (hG : gGI ad S) (hT : gGM T) (hLk : gLk S T) (i : Int32) (hi : gIv 0 3066 i) (hiL : i.toInt + 6 ≤ (L : Int)) {H : Heap} {locs : List Loc} {ls : Array Slot} (hP : va_P G vwCl (ggW k ad S ++ mmW k am T) H) (hD : va_D A (ggW k ad S ++ mmW k am T)) (hS : va_S A s.heap H locs) (hl : lv_has ls 4 [(3, .int i), (2, .ref (am 0)), (1, .ref (ad 100)), (0, .ref b)]) (K : ∀ (S' T' : gS) (H' : Heap) (locs' : List Loc), gGI ad S' → gGM T' → gLk S' T' → va_P G vwCl (ggW k ad S' ++ mmW k am T') H' → va_D A (ggW k ad S' ++ mmW k am T') → va_S A s.heap H' locs' → W p l e room_1 s m #[Value.ref b] below meth c H' locs' 285 12688 (lw_Z below #[Value.ref b] s) (F0 m 1253 ls [])) : W p l e room_1 s m #[Value.ref b] below meth c H locs 285 12688 (lw_Z below #[Value.ref b] s) (F0 m 458 ls []) := by
  obtain ⟨hx, hb, hr, hml, hown, hts, hX, hbl, hlocks, hgv⟩ := id C0
  have hA : ∀ q : Nat, s.heap.size ≤ q → A q := by rw [hAe]; exact fun _ h => h
  have hbA : ¬ A b := by rw [hAe]; exact Nat.not_le.mpr hbl
  refine lv_aload_n hx hb dL_law_458 rfl (lv_at hl 2 rfl) ?_
  refine lv_aload_n hx hb dL_law_459 rfl (lv_at hl 3 rfl) ?_
  refine lv_iload_n hx hb dL_law_460 rfl (lv_at hl 0 rfl) ?_
  refine lv_iconst (v := 1) hx hb dL_law_461 (by decide) ?_
  refine lv_iadd hx hb dL_law_462 ?_
  refine lv_topi (fun xa_1 exa_1 => ?_)
  have ixa_1 : xa_1.toInt = i.toInt + 1 := gI_add exa_1 hi (by decide) (by decide)
  refine va_sld hx hb hX hbl hbA hS (vp_in_iff.mpr ⟨by have z := hi.1; omega, by omega⟩) dL_law_463 ?_
  refine lv_topi (fun ya_1 eya_1 => ?_)
  refine lv_aload_n hx hb dL_law_464 rfl (lv_at hl 3 rfl) ?_
  refine lv_iload_n hx hb dL_law_465 rfl (lv_at hl 0 rfl) ?_
  refine lv_iconst (v := 2) hx hb dL_law_466 (by decide) ?_
  refine lv_iadd hx hb dL_law_467 ?_
  refine lv_topi (fun xa_2 exa_2 => ?_)
  have ixa_2 : xa_2.toInt = i.toInt + 2 := gI_add exa_2 hi (by decide) (by decide)
  refine va_sld hx hb hX hbl hbA hS (vp_in_iff.mpr ⟨by have z := hi.1; omega, by omega⟩) dL_law_468 ?_
  refine lv_topi (fun ya_2 eya_2 => ?_)
  refine gz_iF hP hD hS hA (va_runV (As := [.int ya_1, .int ya_2]) (rest := []) ⟨hx, hb, hml, hown, hts⟩ (f_X10_save l G k sa _ ad S hG ya_1 ya_2) (cwV 2 hts g_L_57_s_X10_save rfl rfl rfl (by decide +kernel) ⟨(Nat.le_of_ble_eq_true rfl), (Nat.le_of_ble_eq_true rfl)⟩) ⟨gP.bl, va_recv hE.K hP (ci := 10) (q0 := 0) rfl rfl, gz_preF hE hZ hS hA hP hD⟩ rfl rfl hl.1 rfl (lv_room (Nat.le_of_ble_eq_true rfl)) dL_law_469 ⟨(Nat.le_of_ble_eq_true rfl), (Nat.le_of_ble_eq_true rfl)⟩) (fun rx ux H locs hx hP hD hS => ?_)
  obtain ⟨hGx, hXx⟩ := hx
  refine lv_pop hx hb dL_law_472 rfl ?_
  rcases hT.2 with ⟨hz, hun⟩ | hc
  · refine lv_aload_n hx hb dL_law_473 rfl (lv_at hl 1 rfl) ?_
    refine lv_aload_n hx hb dL_law_474 rfl (lv_at hl 3 rfl) ?_
    refine lv_iload_n hx hb dL_law_475 rfl (lv_at hl 0 rfl) ?_
    refine lv_iconst (v := 1) hx hb dL_law_476 (by decide) ?_
    refine lv_iadd hx hb dL_law_477 ?_
    refine lv_topi (fun xb_1 exb_1 => ?_)
    have ixb_1 : xb_1.toInt = i.toInt + 1 := gI_add exb_1 hi (by decide) (by decide)
    refine va_sld hx hb hX hbl hbA hS (vp_in_iff.mpr ⟨by have z := hi.1; omega, by omega⟩) dL_law_478 ?_
    refine lv_topi (fun yb_1 eyb_1 => ?_)
    refine lv_aload_n hx hb dL_law_479 rfl (lv_at hl 3 rfl) ?_
    refine lv_iload_n hx hb dL_law_480 rfl (lv_at hl 0 rfl) ?_
    refine lv_iconst (v := 2) hx hb dL_law_481 (by decide) ?_
    refine lv_iadd hx hb dL_law_482 ?_
    refine lv_topi (fun xb_2 exb_2 => ?_)
    have ixb_2 : xb_2.toInt = i.toInt + 2 := gI_add exb_2 hi (by decide) (by decide)
    refine va_sld hx hb hX hbl hbA hS (vp_in_iff.mpr ⟨by have z := hi.1; omega, by omega⟩) dL_law_483 ?_
    refine lv_topi (fun yb_2 eyb_2 => ?_)
    refine gz_iF hP hD hS hA (va_runV (As := [.int yb_1, .int yb_2]) (rest := []) ⟨hx, hb, hml, hown, hts⟩ (f_X11_save_z l G k sa _ am T hT.1 hz hun yb_1 yb_2) (cwV 2 hts g_L_60_r_save_z rfl rfl rfl (by decide +kernel) ⟨(Nat.le_of_ble_eq_true rfl), (Nat.le_of_ble_eq_true rfl)⟩) ⟨gP.bl, va_recv hE.K hP (ci := 11) (q0 := 0) rfl rfl, gz_preF hE hZ hS hA hP hD⟩ rfl rfl hl.1 rfl (lv_room (Nat.le_of_ble_eq_true rfl)) dL_law_484 ⟨(Nat.le_of_ble_eq_true rfl), (Nat.le_of_ble_eq_true rfl)⟩) (fun rm um H locs hm hP hD hS => ?_)
    obtain ⟨hTm, hXm⟩ := hm
    refine lv_pop hx hb dL_law_487 rfl ?_
    refine lv_goto (tgt := 1253) hx hb dL_law_488 (by decide) ?_
    exact K ux um H locs hGx hTm (gLk_mv hLk hXx hXm) hP hD hS
  · refine lv_aload_n hx hb dL_law_473 rfl (lv_at hl 1 rfl) ?_
    refine lv_aload_n hx hb dL_law_474 rfl (lv_at hl 3 rfl) ?_
    refine lv_iload_n hx hb dL_law_475 rfl (lv_at hl 0 rfl) ?_
    refine lv_iconst (v := 1) hx hb dL_law_476 (by decide) ?_
    refine lv_iadd hx hb dL_law_477 ?_
    refine lv_topi (fun xb_1 exb_1 => ?_)
    have ixb_1 : xb_1.toInt = i.toInt + 1 := gI_add exb_1 hi (by decide) (by decide)
    refine va_sld hx hb hX hbl hbA hS (vp_in_iff.mpr ⟨by have z := hi.1; omega, by omega⟩) dL_law_478 ?_
    refine lv_topi (fun yb_1 eyb_1 => ?_)
    refine lv_aload_n hx hb dL_law_479 rfl (lv_at hl 3 rfl) ?_
    refine lv_iload_n hx hb dL_law_480 rfl (lv_at hl 0 rfl) ?_
    refine lv_iconst (v := 2) hx hb dL_law_481 (by decide) ?_
    refine lv_iadd hx hb dL_law_482 ?_
    refine lv_topi (fun xb_2 exb_2 => ?_)
    have ixb_2 : xb_2.toInt = i.toInt + 2 := gI_add exb_2 hi (by decide) (by decide)
    refine va_sld hx hb hX hbl hbA hS (vp_in_iff.mpr ⟨by have z := hi.1; omega, by omega⟩) dL_law_483 ?_
    refine lv_topi (fun yb_2 eyb_2 => ?_)
    refine gz_iF hP hD hS hA (va_runV (As := [.int yb_1, .int yb_2]) (rest := []) ⟨hx, hb, hml, hown, hts⟩ (f_X11_save_c l G k sa _ am T hT.1 hc yb_1 yb_2) (cwV 2 hts g_L_60_r_save_c rfl rfl rfl (by decide +kernel) ⟨(Nat.le_of_ble_eq_true rfl), (Nat.le_of_ble_eq_true rfl)⟩) ⟨gP.bl, va_recv hE.K hP (ci := 11) (q0 := 0) rfl rfl, gz_preF hE hZ hS hA hP hD⟩ rfl rfl hl.1 rfl (lv_room (Nat.le_of_ble_eq_true rfl)) dL_law_484 ⟨(Nat.le_of_ble_eq_true rfl), (Nat.le_of_ble_eq_true rfl)⟩) (fun rm um H locs hm hP hD hS => ?_)
    obtain ⟨hTm, hXm⟩ := hm
    refine lv_pop hx hb dL_law_487 rfl ?_
    refine lv_goto (tgt := 1253) hx hb dL_law_488 (by decide) ?_
    exact K ux um H locs hGx hTm (gLk_mv hLk hXx hXm) hP hD hS
set_option maxHeartbeats 4000000 in
set_option maxRecDepth 100000 in
theorem law_carry {p : Program} {e : Env} {s : State} {m : MethodId} {below : List Frame} {meth : Method} {c : Code} (l : Launch) (G : va_G) (k : Nat → ClassId) (sa : Nat → Nat) {b L : Nat} {xs : Nat → Int32} (C0 : lw_At p s m meth c b L xs) (hE : gE G k sa s) {A : Nat → Prop} (hAe : A = fun q => s.heap.size ≤ q) (hZ : gZ sa A s s.heap) (ad am : Nat → Nat) (S T : gS) (hG : gGI ad S) (hT : gGM T) (hLk : gLk S T) (i : Int32) (hi : gIv 0 3066 i) (hiL : i.toInt + 6 ≤ (L : Int)) {H : Heap} {locs : List Loc} {ls : Array Slot} (hP : va_P G vwCl (ggW k ad S ++ mmW k am T) H) (hD : va_D A (ggW k ad S ++ mmW k am T)) (hS : va_S A s.heap H locs) (hl : lv_has ls 4 [(3, .int i), (2, .ref (am 0)), (1, .ref (ad 100)), (0, .ref b)]) (K : ∀ (S' T' : gS) (H' : Heap) (locs' : List Loc), gGI ad S' → gGM T' → gLk S' T' → va_P G vwCl (ggW k ad S' ++ mmW k am T') H' → va_D A (ggW k ad S' ++ mmW k am T') → va_S A s.heap H' locs' → W p l e room_1 s m #[Value.ref b] below meth c H' locs' 285 12688 (lw_Z below #[Value.ref b] s) (F0 m 1253 ls [])) : W p l e room_1 s m #[Value.ref b] below meth c H locs 285 12688 (lw_Z below #[Value.ref b] s) (F0 m 491 ls []) := by
  obtain ⟨hx, hb, hr, hml, hown, hts, hX, hbl, hlocks, hgv⟩ := id C0
  have hA : ∀ q : Nat, s.heap.size ≤ q → A q := by rw [hAe]; exact fun _ h => h
  have hbA : ¬ A b := by rw [hAe]; exact Nat.not_le.mpr hbl
  refine lv_aload_n hx hb dL_law_491 rfl (lv_at hl 2 rfl) ?_
  refine lv_aload_n hx hb dL_law_492 rfl (lv_at hl 3 rfl) ?_
  refine lv_iload_n hx hb dL_law_493 rfl (lv_at hl 0 rfl) ?_
  refine lv_iconst (v := 1) hx hb dL_law_494 (by decide) ?_
  refine lv_iadd hx hb dL_law_495 ?_
  refine lv_topi (fun xa_1 exa_1 => ?_)
  have ixa_1 : xa_1.toInt = i.toInt + 1 := gI_add exa_1 hi (by decide) (by decide)
  refine va_sld hx hb hX hbl hbA hS (vp_in_iff.mpr ⟨by have z := hi.1; omega, by omega⟩) dL_law_496 ?_
  refine lv_topi (fun ya_1 eya_1 => ?_)
  refine lv_aload_n hx hb dL_law_497 rfl (lv_at hl 3 rfl) ?_
  refine lv_iload_n hx hb dL_law_498 rfl (lv_at hl 0 rfl) ?_
  refine lv_iconst (v := 2) hx hb dL_law_499 (by decide) ?_
  refine lv_iadd hx hb dL_law_500 ?_
  refine lv_topi (fun xa_2 exa_2 => ?_)
  have ixa_2 : xa_2.toInt = i.toInt + 2 := gI_add exa_2 hi (by decide) (by decide)
  refine va_sld hx hb hX hbl hbA hS (vp_in_iff.mpr ⟨by have z := hi.1; omega, by omega⟩) dL_law_501 ?_
  refine lv_topi (fun ya_2 eya_2 => ?_)
  refine gz_iF hP hD hS hA (va_runV (As := [.int ya_1, .int ya_2]) (rest := []) ⟨hx, hb, hml, hown, hts⟩ (f_X10_carry l G k sa _ ad S hG ya_1 ya_2) (cwV 2 hts g_L_61_s_X10_carry rfl rfl rfl (by decide +kernel) ⟨(Nat.le_of_ble_eq_true rfl), (Nat.le_of_ble_eq_true rfl)⟩) ⟨gP.bl, va_recv hE.K hP (ci := 10) (q0 := 0) rfl rfl, gz_preF hE hZ hS hA hP hD⟩ rfl rfl hl.1 rfl (lv_room (Nat.le_of_ble_eq_true rfl)) dL_law_502 ⟨(Nat.le_of_ble_eq_true rfl), (Nat.le_of_ble_eq_true rfl)⟩) (fun rx ux H locs hx hP hD hS => ?_)
  obtain ⟨hGx, hXx⟩ := hx
  refine lv_pop hx hb dL_law_505 rfl ?_
  rcases hT.2 with ⟨hz, hun⟩ | hc
  · refine lv_aload_n hx hb dL_law_506 rfl (lv_at hl 1 rfl) ?_
    refine lv_aload_n hx hb dL_law_507 rfl (lv_at hl 3 rfl) ?_
    refine lv_iload_n hx hb dL_law_508 rfl (lv_at hl 0 rfl) ?_
    refine lv_iconst (v := 1) hx hb dL_law_509 (by decide) ?_
    refine lv_iadd hx hb dL_law_510 ?_
    refine lv_topi (fun xb_1 exb_1 => ?_)
    have ixb_1 : xb_1.toInt = i.toInt + 1 := gI_add exb_1 hi (by decide) (by decide)
    refine va_sld hx hb hX hbl hbA hS (vp_in_iff.mpr ⟨by have z := hi.1; omega, by omega⟩) dL_law_511 ?_
    refine lv_topi (fun yb_1 eyb_1 => ?_)
    refine lv_aload_n hx hb dL_law_512 rfl (lv_at hl 3 rfl) ?_
    refine lv_iload_n hx hb dL_law_513 rfl (lv_at hl 0 rfl) ?_
    refine lv_iconst (v := 2) hx hb dL_law_514 (by decide) ?_
    refine lv_iadd hx hb dL_law_515 ?_
    refine lv_topi (fun xb_2 exb_2 => ?_)
    have ixb_2 : xb_2.toInt = i.toInt + 2 := gI_add exb_2 hi (by decide) (by decide)
    refine va_sld hx hb hX hbl hbA hS (vp_in_iff.mpr ⟨by have z := hi.1; omega, by omega⟩) dL_law_516 ?_
    refine lv_topi (fun yb_2 eyb_2 => ?_)
    refine gz_iF hP hD hS hA (va_runV (As := [.int yb_1, .int yb_2]) (rest := []) ⟨hx, hb, hml, hown, hts⟩ (f_X11_carry_z l G k sa _ am T hT.1 hz hun yb_1 yb_2) (cwV 2 hts g_L_64_r_carry_z rfl rfl rfl (by decide +kernel) ⟨(Nat.le_of_ble_eq_true rfl), (Nat.le_of_ble_eq_true rfl)⟩) ⟨gP.bl, va_recv hE.K hP (ci := 11) (q0 := 0) rfl rfl, gz_preF hE hZ hS hA hP hD⟩ rfl rfl hl.1 rfl (lv_room (Nat.le_of_ble_eq_true rfl)) dL_law_517 ⟨(Nat.le_of_ble_eq_true rfl), (Nat.le_of_ble_eq_true rfl)⟩) (fun rm um H locs hm hP hD hS => ?_)
    obtain ⟨hTm, hXm⟩ := hm
    refine lv_pop hx hb dL_law_520 rfl ?_
    refine lv_goto (tgt := 1253) hx hb dL_law_521 (by decide) ?_
    exact K ux um H locs hGx hTm (gLk_mv hLk hXx hXm) hP hD hS
  · refine lv_aload_n hx hb dL_law_506 rfl (lv_at hl 1 rfl) ?_
    refine lv_aload_n hx hb dL_law_507 rfl (lv_at hl 3 rfl) ?_
    refine lv_iload_n hx hb dL_law_508 rfl (lv_at hl 0 rfl) ?_
    refine lv_iconst (v := 1) hx hb dL_law_509 (by decide) ?_
    refine lv_iadd hx hb dL_law_510 ?_
    refine lv_topi (fun xb_1 exb_1 => ?_)
    have ixb_1 : xb_1.toInt = i.toInt + 1 := gI_add exb_1 hi (by decide) (by decide)
    refine va_sld hx hb hX hbl hbA hS (vp_in_iff.mpr ⟨by have z := hi.1; omega, by omega⟩) dL_law_511 ?_
    refine lv_topi (fun yb_1 eyb_1 => ?_)
    refine lv_aload_n hx hb dL_law_512 rfl (lv_at hl 3 rfl) ?_
    refine lv_iload_n hx hb dL_law_513 rfl (lv_at hl 0 rfl) ?_
    refine lv_iconst (v := 2) hx hb dL_law_514 (by decide) ?_
    refine lv_iadd hx hb dL_law_515 ?_
    refine lv_topi (fun xb_2 exb_2 => ?_)
    have ixb_2 : xb_2.toInt = i.toInt + 2 := gI_add exb_2 hi (by decide) (by decide)
    refine va_sld hx hb hX hbl hbA hS (vp_in_iff.mpr ⟨by have z := hi.1; omega, by omega⟩) dL_law_516 ?_
    refine lv_topi (fun yb_2 eyb_2 => ?_)
    refine gz_iF hP hD hS hA (va_runV (As := [.int yb_1, .int yb_2]) (rest := []) ⟨hx, hb, hml, hown, hts⟩ (f_X11_carry_c l G k sa _ am T hT.1 hc yb_1 yb_2) (cwV 2 hts g_L_64_r_carry_c rfl rfl rfl (by decide +kernel) ⟨(Nat.le_of_ble_eq_true rfl), (Nat.le_of_ble_eq_true rfl)⟩) ⟨gP.bl, va_recv hE.K hP (ci := 11) (q0 := 0) rfl rfl, gz_preF hE hZ hS hA hP hD⟩ rfl rfl hl.1 rfl (lv_room (Nat.le_of_ble_eq_true rfl)) dL_law_517 ⟨(Nat.le_of_ble_eq_true rfl), (Nat.le_of_ble_eq_true rfl)⟩) (fun rm um H locs hm hP hD hS => ?_)
    obtain ⟨hTm, hXm⟩ := hm
    refine lv_pop hx hb dL_law_520 rfl ?_
    refine lv_goto (tgt := 1253) hx hb dL_law_521 (by decide) ?_
    exact K ux um H locs hGx hTm (gLk_mv hLk hXx hXm) hP hD hS
