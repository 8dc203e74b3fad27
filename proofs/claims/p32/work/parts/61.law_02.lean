set_option maxHeartbeats 4000000 in
set_option maxRecDepth 100000 in
theorem law_gate {p : Program} {e : Env} {s : State} {m : MethodId} {below : List Frame} {meth : Method} {c : Code} (l : Launch) (G : va_G) (k : Nat → ClassId) (sa : Nat → Nat) {b L : Nat} {xs : Nat → Int32} (C0 : lw_At p s m meth c b L xs) (hE : gE G k sa s) {A : Nat → Prop} (hAe : A = fun q => s.heap.size ≤ q) (hZ : gZ sa A s s.heap) (ad am : Nat → Nat) (S T : gS) (hG : gGI ad S) (hT : gGM T) (hLk : gLk S T) (i : Int32) (hi : gIv 0 3066 i) (hiL : i.toInt + 6 ≤ (L : Int)) {H : Heap} {locs : List Loc} {ls : Array Slot} (hP : va_P G vwCl (ggW k ad S ++ mmW k am T) H) (hD : va_D A (ggW k ad S ++ mmW k am T)) (hS : va_S A s.heap H locs) (hl : lv_has ls 4 [(3, .int i), (2, .ref (am 0)), (1, .ref (ad 100)), (0, .ref b)]) (K : ∀ (S' T' : gS) (H' : Heap) (locs' : List Loc), gGI ad S' → gGM T' → gLk S' T' → va_P G vwCl (ggW k ad S' ++ mmW k am T') H' → va_D A (ggW k ad S' ++ mmW k am T') → va_S A s.heap H' locs' → W p l e room_1 s m #[Value.ref b] below meth c H' locs' 285 12688 (lw_Z below #[Value.ref b] s) (F0 m 1253 ls [])) : W p l e room_1 s m #[Value.ref b] below meth c H locs 285 12688 (lw_Z below #[Value.ref b] s) (F0 m 524 ls []) := by
  obtain ⟨hx, hb, hr, hml, hown, hts, hX, hbl, hlocks, hgv⟩ := id C0
  have hA : ∀ q : Nat, s.heap.size ≤ q → A q := by rw [hAe]; exact fun _ h => h
  have hbA : ¬ A b := by rw [hAe]; exact Nat.not_le.mpr hbl
  refine lv_aload_n hx hb dL_law_524 rfl (lv_at hl 2 rfl) ?_
  refine lv_aload_n hx hb dL_law_525 rfl (lv_at hl 3 rfl) ?_
  refine lv_iload_n hx hb dL_law_526 rfl (lv_at hl 0 rfl) ?_
  refine lv_iconst (v := 1) hx hb dL_law_527 (by decide) ?_
  refine lv_iadd hx hb dL_law_528 ?_
  refine lv_topi (fun xa_1 exa_1 => ?_)
  have ixa_1 : xa_1.toInt = i.toInt + 1 := gI_add exa_1 hi (by decide) (by decide)
  refine va_sld hx hb hX hbl hbA hS (vp_in_iff.mpr ⟨by have z := hi.1; omega, by omega⟩) dL_law_529 ?_
  refine lv_topi (fun ya_1 eya_1 => ?_)
  refine gz_iF hP hD hS hA (va_runV (As := [.int ya_1]) (rest := []) ⟨hx, hb, hml, hown, hts⟩ (f_X10_gate l G k sa _ ad S hG ya_1) (cwV 1 hts g_L_65_s_X10_gate rfl rfl rfl (by decide +kernel) ⟨(Nat.le_of_ble_eq_true rfl), (Nat.le_of_ble_eq_true rfl)⟩) ⟨gP.bl, va_recv hE.K hP (ci := 10) (q0 := 0) rfl rfl, gz_preF hE hZ hS hA hP hD⟩ rfl rfl hl.1 rfl (lv_room (Nat.le_of_ble_eq_true rfl)) dL_law_530 ⟨(Nat.le_of_ble_eq_true rfl), (Nat.le_of_ble_eq_true rfl)⟩) (fun rx ux H locs hx hP hD hS => ?_)
  obtain ⟨hGx, hXx⟩ := hx
  refine lv_pop hx hb dL_law_533 rfl ?_
  rcases hT.2 with ⟨hz, hun⟩ | hc
  · refine lv_aload_n hx hb dL_law_534 rfl (lv_at hl 1 rfl) ?_
    refine lv_aload_n hx hb dL_law_535 rfl (lv_at hl 3 rfl) ?_
    refine lv_iload_n hx hb dL_law_536 rfl (lv_at hl 0 rfl) ?_
    refine lv_iconst (v := 1) hx hb dL_law_537 (by decide) ?_
    refine lv_iadd hx hb dL_law_538 ?_
    refine lv_topi (fun xb_1 exb_1 => ?_)
    have ixb_1 : xb_1.toInt = i.toInt + 1 := gI_add exb_1 hi (by decide) (by decide)
    refine va_sld hx hb hX hbl hbA hS (vp_in_iff.mpr ⟨by have z := hi.1; omega, by omega⟩) dL_law_539 ?_
    refine lv_topi (fun yb_1 eyb_1 => ?_)
    refine gz_iF hP hD hS hA (va_runV (As := [.int yb_1]) (rest := []) ⟨hx, hb, hml, hown, hts⟩ (f_X11_gate_z l G k sa _ am T hT.1 hz hun yb_1) (cwV 1 hts g_L_68_r_gate_z rfl rfl rfl (by decide +kernel) ⟨(Nat.le_of_ble_eq_true rfl), (Nat.le_of_ble_eq_true rfl)⟩) ⟨gP.bl, va_recv hE.K hP (ci := 11) (q0 := 0) rfl rfl, gz_preF hE hZ hS hA hP hD⟩ rfl rfl hl.1 rfl (lv_room (Nat.le_of_ble_eq_true rfl)) dL_law_540 ⟨(Nat.le_of_ble_eq_true rfl), (Nat.le_of_ble_eq_true rfl)⟩) (fun rm um H locs hm hP hD hS => ?_)
    obtain ⟨hTm, hXm⟩ := hm
    refine lv_pop hx hb dL_law_543 rfl ?_
    refine lv_goto (tgt := 1253) hx hb dL_law_544 (by decide) ?_
    exact K ux um H locs hGx hTm (gLk_mv hLk hXx hXm) hP hD hS
  · refine lv_aload_n hx hb dL_law_534 rfl (lv_at hl 1 rfl) ?_
    refine lv_aload_n hx hb dL_law_535 rfl (lv_at hl 3 rfl) ?_
    refine lv_iload_n hx hb dL_law_536 rfl (lv_at hl 0 rfl) ?_
    refine lv_iconst (v := 1) hx hb dL_law_537 (by decide) ?_
    refine lv_iadd hx hb dL_law_538 ?_
    refine lv_topi (fun xb_1 exb_1 => ?_)
    have ixb_1 : xb_1.toInt = i.toInt + 1 := gI_add exb_1 hi (by decide) (by decide)
    refine va_sld hx hb hX hbl hbA hS (vp_in_iff.mpr ⟨by have z := hi.1; omega, by omega⟩) dL_law_539 ?_
    refine lv_topi (fun yb_1 eyb_1 => ?_)
    refine gz_iF hP hD hS hA (va_runV (As := [.int yb_1]) (rest := []) ⟨hx, hb, hml, hown, hts⟩ (f_X11_gate_c l G k sa _ am T hT.1 hc yb_1) (cwV 1 hts g_L_68_r_gate_c rfl rfl rfl (by decide +kernel) ⟨(Nat.le_of_ble_eq_true rfl), (Nat.le_of_ble_eq_true rfl)⟩) ⟨gP.bl, va_recv hE.K hP (ci := 11) (q0 := 0) rfl rfl, gz_preF hE hZ hS hA hP hD⟩ rfl rfl hl.1 rfl (lv_room (Nat.le_of_ble_eq_true rfl)) dL_law_540 ⟨(Nat.le_of_ble_eq_true rfl), (Nat.le_of_ble_eq_true rfl)⟩) (fun rm um H locs hm hP hD hS => ?_)
    obtain ⟨hTm, hXm⟩ := hm
    refine lv_pop hx hb dL_law_543 rfl ?_
    refine lv_goto (tgt := 1253) hx hb dL_law_544 (by decide) ?_
    exact K ux um H locs hGx hTm (gLk_mv hLk hXx hXm) hP hD hS
set_option maxHeartbeats 4000000 in
set_option maxRecDepth 100000 in
theorem law_undo {p : Program} {e : Env} {s : State} {m : MethodId} {below : List Frame} {meth : Method} {c : Code} (l : Launch) (G : va_G) (k : Nat → ClassId) (sa : Nat → Nat) {b L : Nat} {xs : Nat → Int32} (C0 : lw_At p s m meth c b L xs) (hE : gE G k sa s) {A : Nat → Prop} (hAe : A = fun q => s.heap.size ≤ q) (hZ : gZ sa A s s.heap) (ad am : Nat → Nat) (S T : gS) (hG : gGI ad S) (hT : gGM T) (hLk : gLk S T) (i : Int32) (hi : gIv 0 3066 i) (hiL : i.toInt + 6 ≤ (L : Int)) {H : Heap} {locs : List Loc} {ls : Array Slot} (hP : va_P G vwCl (ggW k ad S ++ mmW k am T) H) (hD : va_D A (ggW k ad S ++ mmW k am T)) (hS : va_S A s.heap H locs) (hl : lv_has ls 4 [(3, .int i), (2, .ref (am 0)), (1, .ref (ad 100)), (0, .ref b)]) (K : ∀ (S' T' : gS) (H' : Heap) (locs' : List Loc), gGI ad S' → gGM T' → gLk S' T' → va_P G vwCl (ggW k ad S' ++ mmW k am T') H' → va_D A (ggW k ad S' ++ mmW k am T') → va_S A s.heap H' locs' → W p l e room_1 s m #[Value.ref b] below meth c H' locs' 285 12688 (lw_Z below #[Value.ref b] s) (F0 m 1253 ls [])) : W p l e room_1 s m #[Value.ref b] below meth c H locs 285 12688 (lw_Z below #[Value.ref b] s) (F0 m 547 ls []) := by
  obtain ⟨hx, hb, hr, hml, hown, hts, hX, hbl, hlocks, hgv⟩ := id C0
  have hA : ∀ q : Nat, s.heap.size ≤ q → A q := by rw [hAe]; exact fun _ h => h
  have hbA : ¬ A b := by rw [hAe]; exact Nat.not_le.mpr hbl
  refine lv_aload_n hx hb dL_law_547 rfl (lv_at hl 2 rfl) ?_
  refine gz_iF hP hD hS hA (va_runV (As := []) (rest := []) ⟨hx, hb, hml, hown, hts⟩ (f_X10_undo l G k sa _ ad S hG) (cwV 0 hts g_L_69_s_X10_undo rfl rfl rfl (by decide +kernel) ⟨(Nat.le_of_ble_eq_true rfl), (Nat.le_of_ble_eq_true rfl)⟩) ⟨gP.bl, va_recv hE.K hP (ci := 10) (q0 := 0) rfl rfl, gz_preF hE hZ hS hA hP hD⟩ rfl rfl hl.1 rfl (lv_room (Nat.le_of_ble_eq_true rfl)) dL_law_548 ⟨(Nat.le_of_ble_eq_true rfl), (Nat.le_of_ble_eq_true rfl)⟩) (fun rx ux H locs hx hP hD hS => ?_)
  obtain ⟨hGx, hXx⟩ := hx
  refine lv_pop hx hb dL_law_551 rfl ?_
  rcases hT.2 with ⟨hz, hun⟩ | hc
  · refine lv_aload_n hx hb dL_law_552 rfl (lv_at hl 1 rfl) ?_
    refine gz_iF hP hD hS hA (va_runV (As := []) (rest := []) ⟨hx, hb, hml, hown, hts⟩ (f_X11_undo_z l G k sa _ am T hT.1 hz hun) (cwV 0 hts g_L_72_r_undo_z rfl rfl rfl (by decide +kernel) ⟨(Nat.le_of_ble_eq_true rfl), (Nat.le_of_ble_eq_true rfl)⟩) ⟨gP.bl, va_recv hE.K hP (ci := 11) (q0 := 0) rfl rfl, gz_preF hE hZ hS hA hP hD⟩ rfl rfl hl.1 rfl (lv_room (Nat.le_of_ble_eq_true rfl)) dL_law_553 ⟨(Nat.le_of_ble_eq_true rfl), (Nat.le_of_ble_eq_true rfl)⟩) (fun rm um H locs hm hP hD hS => ?_)
    obtain ⟨hTm, hXm⟩ := hm
    refine lv_pop hx hb dL_law_556 rfl ?_
    refine lv_goto (tgt := 1253) hx hb dL_law_557 (by decide) ?_
    exact K ux um H locs hGx hTm (gLk_mv hLk hXx hXm) hP hD hS
  · refine lv_aload_n hx hb dL_law_552 rfl (lv_at hl 1 rfl) ?_
    refine gz_iF hP hD hS hA (va_runV (As := []) (rest := []) ⟨hx, hb, hml, hown, hts⟩ (f_X11_undo_c l G k sa _ am T hT.1 hc) (cwV 0 hts g_L_72_r_undo_c rfl rfl rfl (by decide +kernel) ⟨(Nat.le_of_ble_eq_true rfl), (Nat.le_of_ble_eq_true rfl)⟩) ⟨gP.bl, va_recv hE.K hP (ci := 11) (q0 := 0) rfl rfl, gz_preF hE hZ hS hA hP hD⟩ rfl rfl hl.1 rfl (lv_room (Nat.le_of_ble_eq_true rfl)) dL_law_553 ⟨(Nat.le_of_ble_eq_true rfl), (Nat.le_of_ble_eq_true rfl)⟩) (fun rm um H locs hm hP hD hS => ?_)
    obtain ⟨hTm, hXm⟩ := hm
    refine lv_pop hx hb dL_law_556 rfl ?_
    refine lv_goto (tgt := 1253) hx hb dL_law_557 (by decide) ?_
    exact K ux um H locs hGx hTm (gLk_mv hLk hXx hXm) hP hD hS
set_option maxHeartbeats 4000000 in
set_option maxRecDepth 100000 in
theorem law_ahead {p : Program} {e : Env} {s : State} {m : MethodId} {below : List Frame} {meth : Method} {c : Code} (l : Launch) (G : va_G) (k : Nat → ClassId) (sa : Nat → Nat) {b L : Nat} {xs : Nat → Int32} (C0 : lw_At p s m meth c b L xs) (hE : gE G k sa s) {A : Nat → Prop} (hAe : A = fun q => s.heap.size ≤ q) (hZ : gZ sa A s s.heap) (ad am : Nat → Nat) (S T : gS) (hG : gGI ad S) (hT : gGM T) (hLk : gLk S T) (i : Int32) (hi : gIv 0 3066 i) (hiL : i.toInt + 6 ≤ (L : Int)) {H : Heap} {locs : List Loc} {ls : Array Slot} (hP : va_P G vwCl (ggW k ad S ++ mmW k am T) H) (hD : va_D A (ggW k ad S ++ mmW k am T)) (hS : va_S A s.heap H locs) (hl : lv_has ls 4 [(3, .int i), (2, .ref (am 0)), (1, .ref (ad 100)), (0, .ref b)]) (K : ∀ (S' T' : gS) (H' : Heap) (locs' : List Loc), gGI ad S' → gGM T' → gLk S' T' → va_P G vwCl (ggW k ad S' ++ mmW k am T') H' → va_D A (ggW k ad S' ++ mmW k am T') → va_S A s.heap H' locs' → W p l e room_1 s m #[Value.ref b] below meth c H' locs' 285 12688 (lw_Z below #[Value.ref b] s) (F0 m 1253 ls [])) : W p l e room_1 s m #[Value.ref b] below meth c H locs 285 12688 (lw_Z below #[Value.ref b] s) (F0 m 560 ls []) := by
  obtain ⟨hx, hb, hr, hml, hown, hts, hX, hbl, hlocks, hgv⟩ := id C0
  have hA : ∀ q : Nat, s.heap.size ≤ q → A q := by rw [hAe]; exact fun _ h => h
  have hbA : ¬ A b := by rw [hAe]; exact Nat.not_le.mpr hbl
  refine lv_aload_n hx hb dL_law_560 rfl (lv_at hl 2 rfl) ?_
  refine lv_aload_n hx hb dL_law_561 rfl (lv_at hl 3 rfl) ?_
  refine lv_iload_n hx hb dL_law_562 rfl (lv_at hl 0 rfl) ?_
  refine lv_iconst (v := 1) hx hb dL_law_563 (by decide) ?_
  refine lv_iadd hx hb dL_law_564 ?_
  refine lv_topi (fun xa_1 exa_1 => ?_)
  have ixa_1 : xa_1.toInt = i.toInt + 1 := gI_add exa_1 hi (by decide) (by decide)
  refine va_sld hx hb hX hbl hbA hS (vp_in_iff.mpr ⟨by have z := hi.1; omega, by omega⟩) dL_law_565 ?_
  refine lv_topi (fun ya_1 eya_1 => ?_)
  refine lv_aload_n hx hb dL_law_566 rfl (lv_at hl 3 rfl) ?_
  refine lv_iload_n hx hb dL_law_567 rfl (lv_at hl 0 rfl) ?_
  refine lv_iconst (v := 2) hx hb dL_law_568 (by decide) ?_
  refine lv_iadd hx hb dL_law_569 ?_
  refine lv_topi (fun xa_2 exa_2 => ?_)
  have ixa_2 : xa_2.toInt = i.toInt + 2 := gI_add exa_2 hi (by decide) (by decide)
  refine va_sld hx hb hX hbl hbA hS (vp_in_iff.mpr ⟨by have z := hi.1; omega, by omega⟩) dL_law_570 ?_
  refine lv_topi (fun ya_2 eya_2 => ?_)
  refine lv_aload_n hx hb dL_law_571 rfl (lv_at hl 3 rfl) ?_
  refine lv_iload_n hx hb dL_law_572 rfl (lv_at hl 0 rfl) ?_
  refine lv_iconst (v := 3) hx hb dL_law_573 (by decide) ?_
  refine lv_iadd hx hb dL_law_574 ?_
  refine lv_topi (fun xa_3 exa_3 => ?_)
  have ixa_3 : xa_3.toInt = i.toInt + 3 := gI_add exa_3 hi (by decide) (by decide)
  refine va_sld hx hb hX hbl hbA hS (vp_in_iff.mpr ⟨by have z := hi.1; omega, by omega⟩) dL_law_575 ?_
  refine lv_topi (fun ya_3 eya_3 => ?_)
  refine gz_iF hP hD hS hA (va_runV (As := [.int ya_1, .int ya_2, .int ya_3]) (rest := []) ⟨hx, hb, hml, hown, hts⟩ (f_X10_ahead l G k sa _ ad S hG ya_1 ya_2 ya_3) (cwV 3 hts g_L_73_s_X10_ahead rfl rfl rfl (by decide +kernel) ⟨(Nat.le_of_ble_eq_true rfl), (Nat.le_of_ble_eq_true rfl)⟩) ⟨gP.bl, va_recv hE.K hP (ci := 10) (q0 := 0) rfl rfl, gz_preF hE hZ hS hA hP hD⟩ rfl rfl hl.1 rfl (lv_room (Nat.le_of_ble_eq_true rfl)) dL_law_576 ⟨(Nat.le_of_ble_eq_true rfl), (Nat.le_of_ble_eq_true rfl)⟩) (fun rx ux H locs hx hP hD hS => ?_)
  obtain ⟨hGx, hXx⟩ := hx
  refine lv_pop hx hb dL_law_579 rfl ?_
  rcases hT.2 with ⟨hz, hun⟩ | hc
  · refine lv_aload_n hx hb dL_law_580 rfl (lv_at hl 1 rfl) ?_
    refine lv_aload_n hx hb dL_law_581 rfl (lv_at hl 3 rfl) ?_
    refine lv_iload_n hx hb dL_law_582 rfl (lv_at hl 0 rfl) ?_
    refine lv_iconst (v := 1) hx hb dL_law_583 (by decide) ?_
    refine lv_iadd hx hb dL_law_584 ?_
    refine lv_topi (fun xb_1 exb_1 => ?_)
    have ixb_1 : xb_1.toInt = i.toInt + 1 := gI_add exb_1 hi (by decide) (by decide)
    refine va_sld hx hb hX hbl hbA hS (vp_in_iff.mpr ⟨by have z := hi.1; omega, by omega⟩) dL_law_585 ?_
    refine lv_topi (fun yb_1 eyb_1 => ?_)
    refine lv_aload_n hx hb dL_law_586 rfl (lv_at hl 3 rfl) ?_
    refine lv_iload_n hx hb dL_law_587 rfl (lv_at hl 0 rfl) ?_
    refine lv_iconst (v := 2) hx hb dL_law_588 (by decide) ?_
    refine lv_iadd hx hb dL_law_589 ?_
    refine lv_topi (fun xb_2 exb_2 => ?_)
    have ixb_2 : xb_2.toInt = i.toInt + 2 := gI_add exb_2 hi (by decide) (by decide)
    refine va_sld hx hb hX hbl hbA hS (vp_in_iff.mpr ⟨by have z := hi.1; omega, by omega⟩) dL_law_590 ?_
    refine lv_topi (fun yb_2 eyb_2 => ?_)
    refine lv_aload_n hx hb dL_law_591 rfl (lv_at hl 3 rfl) ?_
    refine lv_iload_n hx hb dL_law_592 rfl (lv_at hl 0 rfl) ?_
    refine lv_iconst (v := 3) hx hb dL_law_593 (by decide) ?_
    refine lv_iadd hx hb dL_law_594 ?_
    refine lv_topi (fun xb_3 exb_3 => ?_)
    have ixb_3 : xb_3.toInt = i.toInt + 3 := gI_add exb_3 hi (by decide) (by decide)
    refine va_sld hx hb hX hbl hbA hS (vp_in_iff.mpr ⟨by have z := hi.1; omega, by omega⟩) dL_law_595 ?_
    refine lv_topi (fun yb_3 eyb_3 => ?_)
    refine gz_iF hP hD hS hA (va_runV (As := [.int yb_1, .int yb_2, .int yb_3]) (rest := []) ⟨hx, hb, hml, hown, hts⟩ (f_X11_ahead_z l G k sa _ am T hT.1 hz hun yb_1 yb_2 yb_3) (cwV 3 hts g_L_77_r_ahead_z rfl rfl rfl (by decide +kernel) ⟨(Nat.le_of_ble_eq_true rfl), (Nat.le_of_ble_eq_true rfl)⟩) ⟨gP.bl, va_recv hE.K hP (ci := 11) (q0 := 0) rfl rfl, gz_preF hE hZ hS hA hP hD⟩ rfl rfl hl.1 rfl (lv_room (Nat.le_of_ble_eq_true rfl)) dL_law_596 ⟨(Nat.le_of_ble_eq_true rfl), (Nat.le_of_ble_eq_true rfl)⟩) (fun rm um H locs hm hP hD hS => ?_)
    obtain ⟨hTm, hXm⟩ := hm
    refine lv_pop hx hb dL_law_599 rfl ?_
    refine lv_goto (tgt := 1253) hx hb dL_law_600 (by decide) ?_
    exact K ux um H locs hGx hTm (gLk_mv hLk hXx hXm) hP hD hS
  · refine lv_aload_n hx hb dL_law_580 rfl (lv_at hl 1 rfl) ?_
    refine lv_aload_n hx hb dL_law_581 rfl (lv_at hl 3 rfl) ?_
    refine lv_iload_n hx hb dL_law_582 rfl (lv_at hl 0 rfl) ?_
    refine lv_iconst (v := 1) hx hb dL_law_583 (by decide) ?_
    refine lv_iadd hx hb dL_law_584 ?_
    refine lv_topi (fun xb_1 exb_1 => ?_)
    have ixb_1 : xb_1.toInt = i.toInt + 1 := gI_add exb_1 hi (by decide) (by decide)
    refine va_sld hx hb hX hbl hbA hS (vp_in_iff.mpr ⟨by have z := hi.1; omega, by omega⟩) dL_law_585 ?_
    refine lv_topi (fun yb_1 eyb_1 => ?_)
    refine lv_aload_n hx hb dL_law_586 rfl (lv_at hl 3 rfl) ?_
    refine lv_iload_n hx hb dL_law_587 rfl (lv_at hl 0 rfl) ?_
    refine lv_iconst (v := 2) hx hb dL_law_588 (by decide) ?_
    refine lv_iadd hx hb dL_law_589 ?_
    refine lv_topi (fun xb_2 exb_2 => ?_)
    have ixb_2 : xb_2.toInt = i.toInt + 2 := gI_add exb_2 hi (by decide) (by decide)
    refine va_sld hx hb hX hbl hbA hS (vp_in_iff.mpr ⟨by have z := hi.1; omega, by omega⟩) dL_law_590 ?_
    refine lv_topi (fun yb_2 eyb_2 => ?_)
    refine lv_aload_n hx hb dL_law_591 rfl (lv_at hl 3 rfl) ?_
    refine lv_iload_n hx hb dL_law_592 rfl (lv_at hl 0 rfl) ?_
    refine lv_iconst (v := 3) hx hb dL_law_593 (by decide) ?_
    refine lv_iadd hx hb dL_law_594 ?_
    refine lv_topi (fun xb_3 exb_3 => ?_)
    have ixb_3 : xb_3.toInt = i.toInt + 3 := gI_add exb_3 hi (by decide) (by decide)
    refine va_sld hx hb hX hbl hbA hS (vp_in_iff.mpr ⟨by have z := hi.1; omega, by omega⟩) dL_law_595 ?_
    refine lv_topi (fun yb_3 eyb_3 => ?_)
    refine gz_iF hP hD hS hA (va_runV (As := [.int yb_1, .int yb_2, .int yb_3]) (rest := []) ⟨hx, hb, hml, hown, hts⟩ (f_X11_ahead_c l G k sa _ am T hT.1 hc yb_1 yb_2 yb_3) (cwV 3 hts g_L_77_r_ahead_c rfl rfl rfl (by decide +kernel) ⟨(Nat.le_of_ble_eq_true rfl), (Nat.le_of_ble_eq_true rfl)⟩) ⟨gP.bl, va_recv hE.K hP (ci := 11) (q0 := 0) rfl rfl, gz_preF hE hZ hS hA hP hD⟩ rfl rfl hl.1 rfl (lv_room (Nat.le_of_ble_eq_true rfl)) dL_law_596 ⟨(Nat.le_of_ble_eq_true rfl), (Nat.le_of_ble_eq_true rfl)⟩) (fun rm um H locs hm hP hD hS => ?_)
    obtain ⟨hTm, hXm⟩ := hm
    refine lv_pop hx hb dL_law_599 rfl ?_
    refine lv_goto (tgt := 1253) hx hb dL_law_600 (by decide) ?_
    exact K ux um H locs hGx hTm (gLk_mv hLk hXx hXm) hP hD hS
set_option maxHeartbeats 4000000 in
set_option maxRecDepth 100000 in
theorem law_goes {p : Program} {e : Env} {s : State} {m : MethodId} {below : List Frame} {meth : Method} {c : Code} (l : Launch) (G : va_G) (k : Nat → ClassId) (sa : Nat → Nat) {b L : Nat} {xs : Nat → Int32} (C0 : lw_At p s m meth c b L xs) (hE : gE G k sa s) {A : Nat → Prop} (hAe : A = fun q => s.heap.size ≤ q) (hZ : gZ sa A s s.heap) (ad am : Nat → Nat) (S T : gS) (hG : gGI ad S) (hT : gGM T) (hLk : gLk S T) (i : Int32) (hi : gIv 0 3066 i) (hiL : i.toInt + 6 ≤ (L : Int)) {H : Heap} {locs : List Loc} {ls : Array Slot} (hP : va_P G vwCl (ggW k ad S ++ mmW k am T) H) (hD : va_D A (ggW k ad S ++ mmW k am T)) (hS : va_S A s.heap H locs) (hl : lv_has ls 4 [(3, .int i), (2, .ref (am 0)), (1, .ref (ad 100)), (0, .ref b)]) (K : ∀ (S' T' : gS) (H' : Heap) (locs' : List Loc), gGI ad S' → gGM T' → gLk S' T' → va_P G vwCl (ggW k ad S' ++ mmW k am T') H' → va_D A (ggW k ad S' ++ mmW k am T') → va_S A s.heap H' locs' → W p l e room_1 s m #[Value.ref b] below meth c H' locs' 285 12688 (lw_Z below #[Value.ref b] s) (F0 m 1253 ls [])) : W p l e room_1 s m #[Value.ref b] below meth c H locs 285 12688 (lw_Z below #[Value.ref b] s) (F0 m 603 ls []) := by
  obtain ⟨hx, hb, hr, hml, hown, hts, hX, hbl, hlocks, hgv⟩ := id C0
  have hA : ∀ q : Nat, s.heap.size ≤ q → A q := by rw [hAe]; exact fun _ h => h
  have hbA : ¬ A b := by rw [hAe]; exact Nat.not_le.mpr hbl
  refine lv_aload_n hx hb dL_law_603 rfl (lv_at hl 2 rfl) ?_
  refine lv_aload_n hx hb dL_law_604 rfl (lv_at hl 3 rfl) ?_
  refine lv_iload_n hx hb dL_law_605 rfl (lv_at hl 0 rfl) ?_
  refine lv_iconst (v := 1) hx hb dL_law_606 (by decide) ?_
  refine lv_iadd hx hb dL_law_607 ?_
  refine lv_topi (fun xa_1 exa_1 => ?_)
  have ixa_1 : xa_1.toInt = i.toInt + 1 := gI_add exa_1 hi (by decide) (by decide)
  refine va_sld hx hb hX hbl hbA hS (vp_in_iff.mpr ⟨by have z := hi.1; omega, by omega⟩) dL_law_608 ?_
  refine lv_topi (fun ya_1 eya_1 => ?_)
  refine gz_iF hP hD hS hA (va_runV (As := [.int ya_1]) (rest := []) ⟨hx, hb, hml, hown, hts⟩ (f_X10_goes l G k sa _ ad S hG ya_1) (cwV 1 hts g_L_78_s_X10_goes rfl rfl rfl (by decide +kernel) ⟨(Nat.le_of_ble_eq_true rfl), (Nat.le_of_ble_eq_true rfl)⟩) ⟨gP.bl, va_recv hE.K hP (ci := 10) (q0 := 0) rfl rfl, gz_preF hE hZ hS hA hP hD⟩ rfl rfl hl.1 rfl (lv_room (Nat.le_of_ble_eq_true rfl)) dL_law_609 ⟨(Nat.le_of_ble_eq_true rfl), (Nat.le_of_ble_eq_true rfl)⟩) (fun rx ux H locs hx hP hD hS => ?_)
  obtain ⟨hGx, hXx⟩ := hx
  refine lv_pop hx hb dL_law_612 rfl ?_
  rcases hT.2 with ⟨hz, hun⟩ | hc
  · refine lv_aload_n hx hb dL_law_613 rfl (lv_at hl 1 rfl) ?_
    refine lv_aload_n hx hb dL_law_614 rfl (lv_at hl 3 rfl) ?_
    refine lv_iload_n hx hb dL_law_615 rfl (lv_at hl 0 rfl) ?_
    refine lv_iconst (v := 1) hx hb dL_law_616 (by decide) ?_
    refine lv_iadd hx hb dL_law_617 ?_
    refine lv_topi (fun xb_1 exb_1 => ?_)
    have ixb_1 : xb_1.toInt = i.toInt + 1 := gI_add exb_1 hi (by decide) (by decide)
    refine va_sld hx hb hX hbl hbA hS (vp_in_iff.mpr ⟨by have z := hi.1; omega, by omega⟩) dL_law_618 ?_
    refine lv_topi (fun yb_1 eyb_1 => ?_)
    refine gz_iF hP hD hS hA (va_runV (As := [.int yb_1]) (rest := []) ⟨hx, hb, hml, hown, hts⟩ (f_X11_goes_z l G k sa _ am T hT.1 hz hun yb_1) (cwV 1 hts g_L_81_r_goes_z rfl rfl rfl (by decide +kernel) ⟨(Nat.le_of_ble_eq_true rfl), (Nat.le_of_ble_eq_true rfl)⟩) ⟨gP.bl, va_recv hE.K hP (ci := 11) (q0 := 0) rfl rfl, gz_preF hE hZ hS hA hP hD⟩ rfl rfl hl.1 rfl (lv_room (Nat.le_of_ble_eq_true rfl)) dL_law_619 ⟨(Nat.le_of_ble_eq_true rfl), (Nat.le_of_ble_eq_true rfl)⟩) (fun rm um H locs hm hP hD hS => ?_)
    obtain ⟨hTm, hXm⟩ := hm
    refine lv_pop hx hb dL_law_622 rfl ?_
    refine lv_goto (tgt := 1253) hx hb dL_law_623 (by decide) ?_
    exact K ux um H locs hGx hTm (gLk_mv hLk hXx hXm) hP hD hS
  · refine lv_aload_n hx hb dL_law_613 rfl (lv_at hl 1 rfl) ?_
    refine lv_aload_n hx hb dL_law_614 rfl (lv_at hl 3 rfl) ?_
    refine lv_iload_n hx hb dL_law_615 rfl (lv_at hl 0 rfl) ?_
    refine lv_iconst (v := 1) hx hb dL_law_616 (by decide) ?_
    refine lv_iadd hx hb dL_law_617 ?_
    refine lv_topi (fun xb_1 exb_1 => ?_)
    have ixb_1 : xb_1.toInt = i.toInt + 1 := gI_add exb_1 hi (by decide) (by decide)
    refine va_sld hx hb hX hbl hbA hS (vp_in_iff.mpr ⟨by have z := hi.1; omega, by omega⟩) dL_law_618 ?_
    refine lv_topi (fun yb_1 eyb_1 => ?_)
    refine gz_iF hP hD hS hA (va_runV (As := [.int yb_1]) (rest := []) ⟨hx, hb, hml, hown, hts⟩ (f_X11_goes_c l G k sa _ am T hT.1 hc yb_1) (cwV 1 hts g_L_81_r_goes_c rfl rfl rfl (by decide +kernel) ⟨(Nat.le_of_ble_eq_true rfl), (Nat.le_of_ble_eq_true rfl)⟩) ⟨gP.bl, va_recv hE.K hP (ci := 11) (q0 := 0) rfl rfl, gz_preF hE hZ hS hA hP hD⟩ rfl rfl hl.1 rfl (lv_room (Nat.le_of_ble_eq_true rfl)) dL_law_619 ⟨(Nat.le_of_ble_eq_true rfl), (Nat.le_of_ble_eq_true rfl)⟩) (fun rm um H locs hm hP hD hS => ?_)
    obtain ⟨hTm, hXm⟩ := hm
    refine lv_pop hx hb dL_law_622 rfl ?_
    refine lv_goto (tgt := 1253) hx hb dL_law_623 (by decide) ?_
    exact K ux um H locs hGx hTm (gLk_mv hLk hXx hXm) hP hD hS
set_option maxHeartbeats 4000000 in
set_option maxRecDepth 100000 in
theorem law_down {p : Program} {e : Env} {s : State} {m : MethodId} {below : List Frame} {meth : Method} {c : Code} (l : Launch) (G : va_G) (k : Nat → ClassId) (sa : Nat → Nat) {b L : Nat} {xs : Nat → Int32} (C0 : lw_At p s m meth c b L xs) (hE : gE G k sa s) {A : Nat → Prop} (hAe : A = fun q => s.heap.size ≤ q) (hZ : gZ sa A s s.heap) (ad am : Nat → Nat) (S T : gS) (hG : gGI ad S) (hT : gGM T) (hLk : gLk S T) (i : Int32) (hi : gIv 0 3066 i) (hiL : i.toInt + 6 ≤ (L : Int)) {H : Heap} {locs : List Loc} {ls : Array Slot} (hP : va_P G vwCl (ggW k ad S ++ mmW k am T) H) (hD : va_D A (ggW k ad S ++ mmW k am T)) (hS : va_S A s.heap H locs) (hl : lv_has ls 4 [(3, .int i), (2, .ref (am 0)), (1, .ref (ad 100)), (0, .ref b)]) (K : ∀ (S' T' : gS) (H' : Heap) (locs' : List Loc), gGI ad S' → gGM T' → gLk S' T' → va_P G vwCl (ggW k ad S' ++ mmW k am T') H' → va_D A (ggW k ad S' ++ mmW k am T') → va_S A s.heap H' locs' → W p l e room_1 s m #[Value.ref b] below meth c H' locs' 285 12688 (lw_Z below #[Value.ref b] s) (F0 m 1253 ls [])) : W p l e room_1 s m #[Value.ref b] below meth c H locs 285 12688 (lw_Z below #[Value.ref b] s) (F0 m 626 ls []) := by
  obtain ⟨hx, hb, hr, hml, hown, hts, hX, hbl, hlocks, hgv⟩ := id C0
  have hA : ∀ q : Nat, s.heap.size ≤ q → A q := by rw [hAe]; exact fun _ h => h
  have hbA : ¬ A b := by rw [hAe]; exact Nat.not_le.mpr hbl
  refine lv_aload_n hx hb dL_law_626 rfl (lv_at hl 2 rfl) ?_
  refine lv_aload_n hx hb dL_law_627 rfl (lv_at hl 3 rfl) ?_
  refine lv_iload_n hx hb dL_law_628 rfl (lv_at hl 0 rfl) ?_
  refine lv_iconst (v := 1) hx hb dL_law_629 (by decide) ?_
  refine lv_iadd hx hb dL_law_630 ?_
  refine lv_topi (fun xa_1 exa_1 => ?_)
  have ixa_1 : xa_1.toInt = i.toInt + 1 := gI_add exa_1 hi (by decide) (by decide)
  refine va_sld hx hb hX hbl hbA hS (vp_in_iff.mpr ⟨by have z := hi.1; omega, by omega⟩) dL_law_631 ?_
  refine lv_topi (fun ya_1 eya_1 => ?_)
  refine lv_aload_n hx hb dL_law_632 rfl (lv_at hl 3 rfl) ?_
  refine lv_iload_n hx hb dL_law_633 rfl (lv_at hl 0 rfl) ?_
  refine lv_iconst (v := 2) hx hb dL_law_634 (by decide) ?_
  refine lv_iadd hx hb dL_law_635 ?_
  refine lv_topi (fun xa_2 exa_2 => ?_)
  have ixa_2 : xa_2.toInt = i.toInt + 2 := gI_add exa_2 hi (by decide) (by decide)
  refine va_sld hx hb hX hbl hbA hS (vp_in_iff.mpr ⟨by have z := hi.1; omega, by omega⟩) dL_law_636 ?_
  refine lv_topi (fun ya_2 eya_2 => ?_)
  refine gz_iF hP hD hS hA (va_runV (As := [.int ya_1, .int ya_2]) (rest := []) ⟨hx, hb, hml, hown, hts⟩ (f_X10_down l G k sa _ ad S hG ya_1 ya_2) (cwV 2 hts g_L_82_s_X10_down rfl rfl rfl (by decide +kernel) ⟨(Nat.le_of_ble_eq_true rfl), (Nat.le_of_ble_eq_true rfl)⟩) ⟨gP.bl, va_recv hE.K hP (ci := 10) (q0 := 0) rfl rfl, gz_preF hE hZ hS hA hP hD⟩ rfl rfl hl.1 rfl (lv_room (Nat.le_of_ble_eq_true rfl)) dL_law_637 ⟨(Nat.le_of_ble_eq_true rfl), (Nat.le_of_ble_eq_true rfl)⟩) (fun rx ux H locs hx hP hD hS => ?_)
  obtain ⟨hGx, hXx⟩ := hx
  refine lv_pop hx hb dL_law_640 rfl ?_
  rcases hT.2 with ⟨hz, hun⟩ | hc
  · refine lv_aload_n hx hb dL_law_641 rfl (lv_at hl 1 rfl) ?_
    refine lv_aload_n hx hb dL_law_642 rfl (lv_at hl 3 rfl) ?_
    refine lv_iload_n hx hb dL_law_643 rfl (lv_at hl 0 rfl) ?_
    refine lv_iconst (v := 1) hx hb dL_law_644 (by decide) ?_
    refine lv_iadd hx hb dL_law_645 ?_
    refine lv_topi (fun xb_1 exb_1 => ?_)
    have ixb_1 : xb_1.toInt = i.toInt + 1 := gI_add exb_1 hi (by decide) (by decide)
    refine va_sld hx hb hX hbl hbA hS (vp_in_iff.mpr ⟨by have z := hi.1; omega, by omega⟩) dL_law_646 ?_
    refine lv_topi (fun yb_1 eyb_1 => ?_)
    refine lv_aload_n hx hb dL_law_647 rfl (lv_at hl 3 rfl) ?_
    refine lv_iload_n hx hb dL_law_648 rfl (lv_at hl 0 rfl) ?_
    refine lv_iconst (v := 2) hx hb dL_law_649 (by decide) ?_
    refine lv_iadd hx hb dL_law_650 ?_
    refine lv_topi (fun xb_2 exb_2 => ?_)
    have ixb_2 : xb_2.toInt = i.toInt + 2 := gI_add exb_2 hi (by decide) (by decide)
    refine va_sld hx hb hX hbl hbA hS (vp_in_iff.mpr ⟨by have z := hi.1; omega, by omega⟩) dL_law_651 ?_
    refine lv_topi (fun yb_2 eyb_2 => ?_)
    refine gz_iF hP hD hS hA (va_runV (As := [.int yb_1, .int yb_2]) (rest := []) ⟨hx, hb, hml, hown, hts⟩ (f_X11_down_z l G k sa _ am T hT.1 hz hun yb_1 yb_2) (cwV 2 hts g_L_85_r_down_z rfl rfl rfl (by decide +kernel) ⟨(Nat.le_of_ble_eq_true rfl), (Nat.le_of_ble_eq_true rfl)⟩) ⟨gP.bl, va_recv hE.K hP (ci := 11) (q0 := 0) rfl rfl, gz_preF hE hZ hS hA hP hD⟩ rfl rfl hl.1 rfl (lv_room (Nat.le_of_ble_eq_true rfl)) dL_law_652 ⟨(Nat.le_of_ble_eq_true rfl), (Nat.le_of_ble_eq_true rfl)⟩) (fun rm um H locs hm hP hD hS => ?_)
    obtain ⟨hTm, hXm⟩ := hm
    refine lv_pop hx hb dL_law_655 rfl ?_
    refine lv_goto (tgt := 1253) hx hb dL_law_656 (by decide) ?_
    exact K ux um H locs hGx hTm (gLk_mv hLk hXx hXm) hP hD hS
  · refine lv_aload_n hx hb dL_law_641 rfl (lv_at hl 1 rfl) ?_
    refine lv_aload_n hx hb dL_law_642 rfl (lv_at hl 3 rfl) ?_
    refine lv_iload_n hx hb dL_law_643 rfl (lv_at hl 0 rfl) ?_
    refine lv_iconst (v := 1) hx hb dL_law_644 (by decide) ?_
    refine lv_iadd hx hb dL_law_645 ?_
    refine lv_topi (fun xb_1 exb_1 => ?_)
    have ixb_1 : xb_1.toInt = i.toInt + 1 := gI_add exb_1 hi (by decide) (by decide)
    refine va_sld hx hb hX hbl hbA hS (vp_in_iff.mpr ⟨by have z := hi.1; omega, by omega⟩) dL_law_646 ?_
    refine lv_topi (fun yb_1 eyb_1 => ?_)
    refine lv_aload_n hx hb dL_law_647 rfl (lv_at hl 3 rfl) ?_
    refine lv_iload_n hx hb dL_law_648 rfl (lv_at hl 0 rfl) ?_
    refine lv_iconst (v := 2) hx hb dL_law_649 (by decide) ?_
    refine lv_iadd hx hb dL_law_650 ?_
    refine lv_topi (fun xb_2 exb_2 => ?_)
    have ixb_2 : xb_2.toInt = i.toInt + 2 := gI_add exb_2 hi (by decide) (by decide)
    refine va_sld hx hb hX hbl hbA hS (vp_in_iff.mpr ⟨by have z := hi.1; omega, by omega⟩) dL_law_651 ?_
    refine lv_topi (fun yb_2 eyb_2 => ?_)
    refine gz_iF hP hD hS hA (va_runV (As := [.int yb_1, .int yb_2]) (rest := []) ⟨hx, hb, hml, hown, hts⟩ (f_X11_down_c l G k sa _ am T hT.1 hc yb_1 yb_2) (cwV 2 hts g_L_85_r_down_c rfl rfl rfl (by decide +kernel) ⟨(Nat.le_of_ble_eq_true rfl), (Nat.le_of_ble_eq_true rfl)⟩) ⟨gP.bl, va_recv hE.K hP (ci := 11) (q0 := 0) rfl rfl, gz_preF hE hZ hS hA hP hD⟩ rfl rfl hl.1 rfl (lv_room (Nat.le_of_ble_eq_true rfl)) dL_law_652 ⟨(Nat.le_of_ble_eq_true rfl), (Nat.le_of_ble_eq_true rfl)⟩) (fun rm um H locs hm hP hD hS => ?_)
    obtain ⟨hTm, hXm⟩ := hm
    refine lv_pop hx hb dL_law_655 rfl ?_
    refine lv_goto (tgt := 1253) hx hb dL_law_656 (by decide) ?_
    exact K ux um H locs hGx hTm (gLk_mv hLk hXx hXm) hP hD hS
set_option maxHeartbeats 4000000 in
set_option maxRecDepth 100000 in
theorem law_gone {p : Program} {e : Env} {s : State} {m : MethodId} {below : List Frame} {meth : Method} {c : Code} (l : Launch) (G : va_G) (k : Nat → ClassId) (sa : Nat → Nat) {b L : Nat} {xs : Nat → Int32} (C0 : lw_At p s m meth c b L xs) (hE : gE G k sa s) {A : Nat → Prop} (hAe : A = fun q => s.heap.size ≤ q) (hZ : gZ sa A s s.heap) (ad am : Nat → Nat) (S T : gS) (hG : gGI ad S) (hT : gGM T) (hLk : gLk S T) (i : Int32) (hi : gIv 0 3066 i) (hiL : i.toInt + 6 ≤ (L : Int)) {H : Heap} {locs : List Loc} {ls : Array Slot} (hP : va_P G vwCl (ggW k ad S ++ mmW k am T) H) (hD : va_D A (ggW k ad S ++ mmW k am T)) (hS : va_S A s.heap H locs) (hl : lv_has ls 4 [(3, .int i), (2, .ref (am 0)), (1, .ref (ad 100)), (0, .ref b)]) (K : ∀ (S' T' : gS) (H' : Heap) (locs' : List Loc), gGI ad S' → gGM T' → gLk S' T' → va_P G vwCl (ggW k ad S' ++ mmW k am T') H' → va_D A (ggW k ad S' ++ mmW k am T') → va_S A s.heap H' locs' → W p l e room_1 s m #[Value.ref b] below meth c H' locs' 285 12688 (lw_Z below #[Value.ref b] s) (F0 m 1253 ls [])) : W p l e room_1 s m #[Value.ref b] below meth c H locs 285 12688 (lw_Z below #[Value.ref b] s) (F0 m 659 ls []) := by
  obtain ⟨hx, hb, hr, hml, hown, hts, hX, hbl, hlocks, hgv⟩ := id C0
  have hA : ∀ q : Nat, s.heap.size ≤ q → A q := by rw [hAe]; exact fun _ h => h
  have hbA : ¬ A b := by rw [hAe]; exact Nat.not_le.mpr hbl
  refine lv_aload_n hx hb dL_law_659 rfl (lv_at hl 2 rfl) ?_
  refine lv_aload_n hx hb dL_law_660 rfl (lv_at hl 3 rfl) ?_
  refine lv_iload_n hx hb dL_law_661 rfl (lv_at hl 0 rfl) ?_
  refine lv_iconst (v := 1) hx hb dL_law_662 (by decide) ?_
  refine lv_iadd hx hb dL_law_663 ?_
  refine lv_topi (fun xa_1 exa_1 => ?_)
  have ixa_1 : xa_1.toInt = i.toInt + 1 := gI_add exa_1 hi (by decide) (by decide)
  refine va_sld hx hb hX hbl hbA hS (vp_in_iff.mpr ⟨by have z := hi.1; omega, by omega⟩) dL_law_664 ?_
  refine lv_topi (fun ya_1 eya_1 => ?_)
  refine lv_aload_n hx hb dL_law_665 rfl (lv_at hl 3 rfl) ?_
  refine lv_iload_n hx hb dL_law_666 rfl (lv_at hl 0 rfl) ?_
  refine lv_iconst (v := 2) hx hb dL_law_667 (by decide) ?_
  refine lv_iadd hx hb dL_law_668 ?_
  refine lv_topi (fun xa_2 exa_2 => ?_)
  have ixa_2 : xa_2.toInt = i.toInt + 2 := gI_add exa_2 hi (by decide) (by decide)
  refine va_sld hx hb hX hbl hbA hS (vp_in_iff.mpr ⟨by have z := hi.1; omega, by omega⟩) dL_law_669 ?_
  refine lv_topi (fun ya_2 eya_2 => ?_)
  refine lv_aload_n hx hb dL_law_670 rfl (lv_at hl 3 rfl) ?_
  refine lv_iload_n hx hb dL_law_671 rfl (lv_at hl 0 rfl) ?_
  refine lv_iconst (v := 3) hx hb dL_law_672 (by decide) ?_
  refine lv_iadd hx hb dL_law_673 ?_
  refine lv_topi (fun xa_3 exa_3 => ?_)
  have ixa_3 : xa_3.toInt = i.toInt + 3 := gI_add exa_3 hi (by decide) (by decide)
  refine va_sld hx hb hX hbl hbA hS (vp_in_iff.mpr ⟨by have z := hi.1; omega, by omega⟩) dL_law_674 ?_
  refine lv_topi (fun ya_3 eya_3 => ?_)
  refine gz_iF hP hD hS hA (va_runV (As := [.int ya_1, .int ya_2, .int ya_3]) (rest := []) ⟨hx, hb, hml, hown, hts⟩ (f_X10_gone l G k sa _ ad S hG ya_1 ya_2 ya_3) (cwV 3 hts g_L_86_s_X10_gone rfl rfl rfl (by decide +kernel) ⟨(Nat.le_of_ble_eq_true rfl), (Nat.le_of_ble_eq_true rfl)⟩) ⟨gP.bl, va_recv hE.K hP (ci := 10) (q0 := 0) rfl rfl, gz_preF hE hZ hS hA hP hD⟩ rfl rfl hl.1 rfl (lv_room (Nat.le_of_ble_eq_true rfl)) dL_law_675 ⟨(Nat.le_of_ble_eq_true rfl), (Nat.le_of_ble_eq_true rfl)⟩) (fun rx ux H locs hx hP hD hS => ?_)
  obtain ⟨hGx, hXx⟩ := hx
  refine lv_pop hx hb dL_law_678 rfl ?_
  rcases hT.2 with ⟨hz, hun⟩ | hc
  · refine lv_aload_n hx hb dL_law_679 rfl (lv_at hl 1 rfl) ?_
    refine lv_aload_n hx hb dL_law_680 rfl (lv_at hl 3 rfl) ?_
    refine lv_iload_n hx hb dL_law_681 rfl (lv_at hl 0 rfl) ?_
    refine lv_iconst (v := 1) hx hb dL_law_682 (by decide) ?_
    refine lv_iadd hx hb dL_law_683 ?_
    refine lv_topi (fun xb_1 exb_1 => ?_)
    have ixb_1 : xb_1.toInt = i.toInt + 1 := gI_add exb_1 hi (by decide) (by decide)
    refine va_sld hx hb hX hbl hbA hS (vp_in_iff.mpr ⟨by have z := hi.1; omega, by omega⟩) dL_law_684 ?_
    refine lv_topi (fun yb_1 eyb_1 => ?_)
    refine lv_aload_n hx hb dL_law_685 rfl (lv_at hl 3 rfl) ?_
    refine lv_iload_n hx hb dL_law_686 rfl (lv_at hl 0 rfl) ?_
    refine lv_iconst (v := 2) hx hb dL_law_687 (by decide) ?_
    refine lv_iadd hx hb dL_law_688 ?_
    refine lv_topi (fun xb_2 exb_2 => ?_)
    have ixb_2 : xb_2.toInt = i.toInt + 2 := gI_add exb_2 hi (by decide) (by decide)
    refine va_sld hx hb hX hbl hbA hS (vp_in_iff.mpr ⟨by have z := hi.1; omega, by omega⟩) dL_law_689 ?_
    refine lv_topi (fun yb_2 eyb_2 => ?_)
    refine lv_aload_n hx hb dL_law_690 rfl (lv_at hl 3 rfl) ?_
    refine lv_iload_n hx hb dL_law_691 rfl (lv_at hl 0 rfl) ?_
    refine lv_iconst (v := 3) hx hb dL_law_692 (by decide) ?_
    refine lv_iadd hx hb dL_law_693 ?_
    refine lv_topi (fun xb_3 exb_3 => ?_)
    have ixb_3 : xb_3.toInt = i.toInt + 3 := gI_add exb_3 hi (by decide) (by decide)
    refine va_sld hx hb hX hbl hbA hS (vp_in_iff.mpr ⟨by have z := hi.1; omega, by omega⟩) dL_law_694 ?_
    refine lv_topi (fun yb_3 eyb_3 => ?_)
    refine gz_iF hP hD hS hA (va_runV (As := [.int yb_1, .int yb_2, .int yb_3]) (rest := []) ⟨hx, hb, hml, hown, hts⟩ (f_X11_gone_z l G k sa _ am T hT.1 hz hun yb_1 yb_2 yb_3) (cwV 3 hts g_L_89_r_gone_z rfl rfl rfl (by decide +kernel) ⟨(Nat.le_of_ble_eq_true rfl), (Nat.le_of_ble_eq_true rfl)⟩) ⟨gP.bl, va_recv hE.K hP (ci := 11) (q0 := 0) rfl rfl, gz_preF hE hZ hS hA hP hD⟩ rfl rfl hl.1 rfl (lv_room (Nat.le_of_ble_eq_true rfl)) dL_law_695 ⟨(Nat.le_of_ble_eq_true rfl), (Nat.le_of_ble_eq_true rfl)⟩) (fun rm um H locs hm hP hD hS => ?_)
    obtain ⟨hTm, hXm⟩ := hm
    refine lv_pop hx hb dL_law_698 rfl ?_
    refine lv_goto (tgt := 1253) hx hb dL_law_699 (by decide) ?_
    exact K ux um H locs hGx hTm (gLk_mv hLk hXx hXm) hP hD hS
  · refine lv_aload_n hx hb dL_law_679 rfl (lv_at hl 1 rfl) ?_
    refine lv_aload_n hx hb dL_law_680 rfl (lv_at hl 3 rfl) ?_
    refine lv_iload_n hx hb dL_law_681 rfl (lv_at hl 0 rfl) ?_
    refine lv_iconst (v := 1) hx hb dL_law_682 (by decide) ?_
    refine lv_iadd hx hb dL_law_683 ?_
    refine lv_topi (fun xb_1 exb_1 => ?_)
    have ixb_1 : xb_1.toInt = i.toInt + 1 := gI_add exb_1 hi (by decide) (by decide)
    refine va_sld hx hb hX hbl hbA hS (vp_in_iff.mpr ⟨by have z := hi.1; omega, by omega⟩) dL_law_684 ?_
    refine lv_topi (fun yb_1 eyb_1 => ?_)
    refine lv_aload_n hx hb dL_law_685 rfl (lv_at hl 3 rfl) ?_
    refine lv_iload_n hx hb dL_law_686 rfl (lv_at hl 0 rfl) ?_
    refine lv_iconst (v := 2) hx hb dL_law_687 (by decide) ?_
    refine lv_iadd hx hb dL_law_688 ?_
    refine lv_topi (fun xb_2 exb_2 => ?_)
    have ixb_2 : xb_2.toInt = i.toInt + 2 := gI_add exb_2 hi (by decide) (by decide)
    refine va_sld hx hb hX hbl hbA hS (vp_in_iff.mpr ⟨by have z := hi.1; omega, by omega⟩) dL_law_689 ?_
    refine lv_topi (fun yb_2 eyb_2 => ?_)
    refine lv_aload_n hx hb dL_law_690 rfl (lv_at hl 3 rfl) ?_
    refine lv_iload_n hx hb dL_law_691 rfl (lv_at hl 0 rfl) ?_
    refine lv_iconst (v := 3) hx hb dL_law_692 (by decide) ?_
    refine lv_iadd hx hb dL_law_693 ?_
    refine lv_topi (fun xb_3 exb_3 => ?_)
    have ixb_3 : xb_3.toInt = i.toInt + 3 := gI_add exb_3 hi (by decide) (by decide)
    refine va_sld hx hb hX hbl hbA hS (vp_in_iff.mpr ⟨by have z := hi.1; omega, by omega⟩) dL_law_694 ?_
    refine lv_topi (fun yb_3 eyb_3 => ?_)
    refine gz_iF hP hD hS hA (va_runV (As := [.int yb_1, .int yb_2, .int yb_3]) (rest := []) ⟨hx, hb, hml, hown, hts⟩ (f_X11_gone_c l G k sa _ am T hT.1 hc yb_1 yb_2 yb_3) (cwV 3 hts g_L_89_r_gone_c rfl rfl rfl (by decide +kernel) ⟨(Nat.le_of_ble_eq_true rfl), (Nat.le_of_ble_eq_true rfl)⟩) ⟨gP.bl, va_recv hE.K hP (ci := 11) (q0 := 0) rfl rfl, gz_preF hE hZ hS hA hP hD⟩ rfl rfl hl.1 rfl (lv_room (Nat.le_of_ble_eq_true rfl)) dL_law_695 ⟨(Nat.le_of_ble_eq_true rfl), (Nat.le_of_ble_eq_true rfl)⟩) (fun rm um H locs hm hP hD hS => ?_)
    obtain ⟨hTm, hXm⟩ := hm
    refine lv_pop hx hb dL_law_698 rfl ?_
    refine lv_goto (tgt := 1253) hx hb dL_law_699 (by decide) ?_
    exact K ux um H locs hGx hTm (gLk_mv hLk hXx hXm) hP hD hS
