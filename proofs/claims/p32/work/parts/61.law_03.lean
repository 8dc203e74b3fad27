set_option maxHeartbeats 4000000 in
set_option maxRecDepth 100000 in
theorem law_timing {p : Program} {e : Env} {s : State} {m : MethodId} {below : List Frame} {meth : Method} {c : Code} (l : Launch) (G : va_G) (k : Nat → ClassId) (sa : Nat → Nat) {b L : Nat} {xs : Nat → Int32} (C0 : lw_At p s m meth c b L xs) (hE : gE G k sa s) {A : Nat → Prop} (hAe : A = fun q => s.heap.size ≤ q) (hZ : gZ sa A s s.heap) (ad am : Nat → Nat) (S T : gS) (hG : gGI ad S) (hT : gGM T) (hLk : gLk S T) (i : Int32) (hi : gIv 0 3066 i) (hiL : i.toInt + 6 ≤ (L : Int)) {H : Heap} {locs : List Loc} {ls : Array Slot} (hP : va_P G vwCl (ggW k ad S ++ mmW k am T) H) (hD : va_D A (ggW k ad S ++ mmW k am T)) (hS : va_S A s.heap H locs) (hl : lv_has ls 4 [(3, .int i), (2, .ref (am 0)), (1, .ref (ad 100)), (0, .ref b)]) (K : ∀ (S' T' : gS) (H' : Heap) (locs' : List Loc), gGI ad S' → gGM T' → gLk S' T' → va_P G vwCl (ggW k ad S' ++ mmW k am T') H' → va_D A (ggW k ad S' ++ mmW k am T') → va_S A s.heap H' locs' → W p l e room_1 s m #[Value.ref b] below meth c H' locs' 285 12688 (lw_Z below #[Value.ref b] s) (F0 m 1253 ls [])) : W p l e room_1 s m #[Value.ref b] below meth c H locs 285 12688 (lw_Z below #[Value.ref b] s) (F0 m 702 ls []) := by
  obtain ⟨hx, hb, hr, hml, hown, hts, hX, hbl, hlocks, hgv⟩ := id C0
  have hA : ∀ q : Nat, s.heap.size ≤ q → A q := by rw [hAe]; exact fun _ h => h
  have hbA : ¬ A b := by rw [hAe]; exact Nat.not_le.mpr hbl
  refine lv_aload_n hx hb dL_law_702 rfl (lv_at hl 2 rfl) ?_
  refine lv_aload_n hx hb dL_law_703 rfl (lv_at hl 3 rfl) ?_
  refine lv_iload_n hx hb dL_law_704 rfl (lv_at hl 0 rfl) ?_
  refine lv_iconst (v := 1) hx hb dL_law_705 (by decide) ?_
  refine lv_iadd hx hb dL_law_706 ?_
  refine lv_topi (fun xa_1 exa_1 => ?_)
  have ixa_1 : xa_1.toInt = i.toInt + 1 := gI_add exa_1 hi (by decide) (by decide)
  refine va_sld hx hb hX hbl hbA hS (vp_in_iff.mpr ⟨by have z := hi.1; omega, by omega⟩) dL_law_707 ?_
  refine lv_topi (fun ya_1 eya_1 => ?_)
  refine lv_aload_n hx hb dL_law_708 rfl (lv_at hl 3 rfl) ?_
  refine lv_iload_n hx hb dL_law_709 rfl (lv_at hl 0 rfl) ?_
  refine lv_iconst (v := 2) hx hb dL_law_710 (by decide) ?_
  refine lv_iadd hx hb dL_law_711 ?_
  refine lv_topi (fun xa_2 exa_2 => ?_)
  have ixa_2 : xa_2.toInt = i.toInt + 2 := gI_add exa_2 hi (by decide) (by decide)
  refine va_sld hx hb hX hbl hbA hS (vp_in_iff.mpr ⟨by have z := hi.1; omega, by omega⟩) dL_law_712 ?_
  refine lv_topi (fun ya_2 eya_2 => ?_)
  refine gz_iF hP hD hS hA (va_runV (As := [.int ya_1, .int ya_2]) (rest := []) ⟨hx, hb, hml, hown, hts⟩ (f_X10_timing l G k sa _ ad S hG ya_1 ya_2) (cwV 2 hts g_L_90_s_X10_timing rfl rfl rfl (by decide +kernel) ⟨(Nat.le_of_ble_eq_true rfl), (Nat.le_of_ble_eq_true rfl)⟩) ⟨gP.bl, va_recv hE.K hP (ci := 10) (q0 := 0) rfl rfl, gz_preF hE hZ hS hA hP hD⟩ rfl rfl hl.1 rfl (lv_room (Nat.le_of_ble_eq_true rfl)) dL_law_713 ⟨(Nat.le_of_ble_eq_true rfl), (Nat.le_of_ble_eq_true rfl)⟩) (fun rx ux H locs hx hP hD hS => ?_)
  obtain ⟨hGx, hXx⟩ := hx
  refine lv_pop hx hb dL_law_716 rfl ?_
  rcases hT.2 with ⟨hz, hun⟩ | hc
  · refine lv_aload_n hx hb dL_law_717 rfl (lv_at hl 1 rfl) ?_
    refine lv_aload_n hx hb dL_law_718 rfl (lv_at hl 3 rfl) ?_
    refine lv_iload_n hx hb dL_law_719 rfl (lv_at hl 0 rfl) ?_
    refine lv_iconst (v := 1) hx hb dL_law_720 (by decide) ?_
    refine lv_iadd hx hb dL_law_721 ?_
    refine lv_topi (fun xb_1 exb_1 => ?_)
    have ixb_1 : xb_1.toInt = i.toInt + 1 := gI_add exb_1 hi (by decide) (by decide)
    refine va_sld hx hb hX hbl hbA hS (vp_in_iff.mpr ⟨by have z := hi.1; omega, by omega⟩) dL_law_722 ?_
    refine lv_topi (fun yb_1 eyb_1 => ?_)
    refine lv_aload_n hx hb dL_law_723 rfl (lv_at hl 3 rfl) ?_
    refine lv_iload_n hx hb dL_law_724 rfl (lv_at hl 0 rfl) ?_
    refine lv_iconst (v := 2) hx hb dL_law_725 (by decide) ?_
    refine lv_iadd hx hb dL_law_726 ?_
    refine lv_topi (fun xb_2 exb_2 => ?_)
    have ixb_2 : xb_2.toInt = i.toInt + 2 := gI_add exb_2 hi (by decide) (by decide)
    refine va_sld hx hb hX hbl hbA hS (vp_in_iff.mpr ⟨by have z := hi.1; omega, by omega⟩) dL_law_727 ?_
    refine lv_topi (fun yb_2 eyb_2 => ?_)
    refine gz_iF hP hD hS hA (va_runV (As := [.int yb_1, .int yb_2]) (rest := []) ⟨hx, hb, hml, hown, hts⟩ (f_X11_timing_z l G k sa _ am T hT.1 hz hun yb_1 yb_2) (cwV 2 hts g_L_93_r_timing_z rfl rfl rfl (by decide +kernel) ⟨(Nat.le_of_ble_eq_true rfl), (Nat.le_of_ble_eq_true rfl)⟩) ⟨gP.bl, va_recv hE.K hP (ci := 11) (q0 := 0) rfl rfl, gz_preF hE hZ hS hA hP hD⟩ rfl rfl hl.1 rfl (lv_room (Nat.le_of_ble_eq_true rfl)) dL_law_728 ⟨(Nat.le_of_ble_eq_true rfl), (Nat.le_of_ble_eq_true rfl)⟩) (fun rm um H locs hm hP hD hS => ?_)
    obtain ⟨hTm, hXm⟩ := hm
    refine lv_pop hx hb dL_law_731 rfl ?_
    refine lv_goto (tgt := 1253) hx hb dL_law_732 (by decide) ?_
    exact K ux um H locs hGx hTm (gLk_mv hLk hXx hXm) hP hD hS
  · refine lv_aload_n hx hb dL_law_717 rfl (lv_at hl 1 rfl) ?_
    refine lv_aload_n hx hb dL_law_718 rfl (lv_at hl 3 rfl) ?_
    refine lv_iload_n hx hb dL_law_719 rfl (lv_at hl 0 rfl) ?_
    refine lv_iconst (v := 1) hx hb dL_law_720 (by decide) ?_
    refine lv_iadd hx hb dL_law_721 ?_
    refine lv_topi (fun xb_1 exb_1 => ?_)
    have ixb_1 : xb_1.toInt = i.toInt + 1 := gI_add exb_1 hi (by decide) (by decide)
    refine va_sld hx hb hX hbl hbA hS (vp_in_iff.mpr ⟨by have z := hi.1; omega, by omega⟩) dL_law_722 ?_
    refine lv_topi (fun yb_1 eyb_1 => ?_)
    refine lv_aload_n hx hb dL_law_723 rfl (lv_at hl 3 rfl) ?_
    refine lv_iload_n hx hb dL_law_724 rfl (lv_at hl 0 rfl) ?_
    refine lv_iconst (v := 2) hx hb dL_law_725 (by decide) ?_
    refine lv_iadd hx hb dL_law_726 ?_
    refine lv_topi (fun xb_2 exb_2 => ?_)
    have ixb_2 : xb_2.toInt = i.toInt + 2 := gI_add exb_2 hi (by decide) (by decide)
    refine va_sld hx hb hX hbl hbA hS (vp_in_iff.mpr ⟨by have z := hi.1; omega, by omega⟩) dL_law_727 ?_
    refine lv_topi (fun yb_2 eyb_2 => ?_)
    refine gz_iF hP hD hS hA (va_runV (As := [.int yb_1, .int yb_2]) (rest := []) ⟨hx, hb, hml, hown, hts⟩ (f_X11_timing_c l G k sa _ am T hT.1 hc yb_1 yb_2) (cwV 2 hts g_L_93_r_timing_c rfl rfl rfl (by decide +kernel) ⟨(Nat.le_of_ble_eq_true rfl), (Nat.le_of_ble_eq_true rfl)⟩) ⟨gP.bl, va_recv hE.K hP (ci := 11) (q0 := 0) rfl rfl, gz_preF hE hZ hS hA hP hD⟩ rfl rfl hl.1 rfl (lv_room (Nat.le_of_ble_eq_true rfl)) dL_law_728 ⟨(Nat.le_of_ble_eq_true rfl), (Nat.le_of_ble_eq_true rfl)⟩) (fun rm um H locs hm hP hD hS => ?_)
    obtain ⟨hTm, hXm⟩ := hm
    refine lv_pop hx hb dL_law_731 rfl ?_
    refine lv_goto (tgt := 1253) hx hb dL_law_732 (by decide) ?_
    exact K ux um H locs hGx hTm (gLk_mv hLk hXx hXm) hP hD hS
set_option maxHeartbeats 4000000 in
set_option maxRecDepth 100000 in
theorem law_had {p : Program} {e : Env} {s : State} {m : MethodId} {below : List Frame} {meth : Method} {c : Code} (l : Launch) (G : va_G) (k : Nat → ClassId) (sa : Nat → Nat) {b L : Nat} {xs : Nat → Int32} (C0 : lw_At p s m meth c b L xs) (hE : gE G k sa s) {A : Nat → Prop} (hAe : A = fun q => s.heap.size ≤ q) (hZ : gZ sa A s s.heap) (ad am : Nat → Nat) (S T : gS) (hG : gGI ad S) (hT : gGM T) (hLk : gLk S T) (i : Int32) (hi : gIv 0 3066 i) (hiL : i.toInt + 6 ≤ (L : Int)) {H : Heap} {locs : List Loc} {ls : Array Slot} (hP : va_P G vwCl (ggW k ad S ++ mmW k am T) H) (hD : va_D A (ggW k ad S ++ mmW k am T)) (hS : va_S A s.heap H locs) (hl : lv_has ls 4 [(3, .int i), (2, .ref (am 0)), (1, .ref (ad 100)), (0, .ref b)]) (K : ∀ (S' T' : gS) (H' : Heap) (locs' : List Loc), gGI ad S' → gGM T' → gLk S' T' → va_P G vwCl (ggW k ad S' ++ mmW k am T') H' → va_D A (ggW k ad S' ++ mmW k am T') → va_S A s.heap H' locs' → W p l e room_1 s m #[Value.ref b] below meth c H' locs' 285 12688 (lw_Z below #[Value.ref b] s) (F0 m 1253 ls [])) : W p l e room_1 s m #[Value.ref b] below meth c H locs 285 12688 (lw_Z below #[Value.ref b] s) (F0 m 735 ls []) := by
  obtain ⟨hx, hb, hr, hml, hown, hts, hX, hbl, hlocks, hgv⟩ := id C0
  have hA : ∀ q : Nat, s.heap.size ≤ q → A q := by rw [hAe]; exact fun _ h => h
  have hbA : ¬ A b := by rw [hAe]; exact Nat.not_le.mpr hbl
  refine lv_aload_n hx hb dL_law_735 rfl (lv_at hl 2 rfl) ?_
  refine lv_aload_n hx hb dL_law_736 rfl (lv_at hl 3 rfl) ?_
  refine lv_iload_n hx hb dL_law_737 rfl (lv_at hl 0 rfl) ?_
  refine lv_iconst (v := 1) hx hb dL_law_738 (by decide) ?_
  refine lv_iadd hx hb dL_law_739 ?_
  refine lv_topi (fun xa_1 exa_1 => ?_)
  have ixa_1 : xa_1.toInt = i.toInt + 1 := gI_add exa_1 hi (by decide) (by decide)
  refine va_sld hx hb hX hbl hbA hS (vp_in_iff.mpr ⟨by have z := hi.1; omega, by omega⟩) dL_law_740 ?_
  refine lv_topi (fun ya_1 eya_1 => ?_)
  refine lv_aload_n hx hb dL_law_741 rfl (lv_at hl 3 rfl) ?_
  refine lv_iload_n hx hb dL_law_742 rfl (lv_at hl 0 rfl) ?_
  refine lv_iconst (v := 2) hx hb dL_law_743 (by decide) ?_
  refine lv_iadd hx hb dL_law_744 ?_
  refine lv_topi (fun xa_2 exa_2 => ?_)
  have ixa_2 : xa_2.toInt = i.toInt + 2 := gI_add exa_2 hi (by decide) (by decide)
  refine va_sld hx hb hX hbl hbA hS (vp_in_iff.mpr ⟨by have z := hi.1; omega, by omega⟩) dL_law_745 ?_
  refine lv_topi (fun ya_2 eya_2 => ?_)
  refine lv_aload_n hx hb dL_law_746 rfl (lv_at hl 3 rfl) ?_
  refine lv_iload_n hx hb dL_law_747 rfl (lv_at hl 0 rfl) ?_
  refine lv_iconst (v := 3) hx hb dL_law_748 (by decide) ?_
  refine lv_iadd hx hb dL_law_749 ?_
  refine lv_topi (fun xa_3 exa_3 => ?_)
  have ixa_3 : xa_3.toInt = i.toInt + 3 := gI_add exa_3 hi (by decide) (by decide)
  refine va_sld hx hb hX hbl hbA hS (vp_in_iff.mpr ⟨by have z := hi.1; omega, by omega⟩) dL_law_750 ?_
  refine lv_topi (fun ya_3 eya_3 => ?_)
  refine gz_iF hP hD hS hA (va_runV (As := [.int ya_1, .int ya_2, .int ya_3]) (rest := []) ⟨hx, hb, hml, hown, hts⟩ (f_X10_had l G k sa _ ad S hG ya_1 ya_2 ya_3) (cwV 3 hts g_L_94_s_X10_had rfl rfl rfl (by decide +kernel) ⟨(Nat.le_of_ble_eq_true rfl), (Nat.le_of_ble_eq_true rfl)⟩) ⟨gP.bl, va_recv hE.K hP (ci := 10) (q0 := 0) rfl rfl, gz_preF hE hZ hS hA hP hD⟩ rfl rfl hl.1 rfl (lv_room (Nat.le_of_ble_eq_true rfl)) dL_law_751 ⟨(Nat.le_of_ble_eq_true rfl), (Nat.le_of_ble_eq_true rfl)⟩) (fun rx ux H locs hx hP hD hS => ?_)
  obtain ⟨hGx, hXx⟩ := hx
  refine lv_pop hx hb dL_law_754 rfl ?_
  rcases hT.2 with ⟨hz, hun⟩ | hc
  · refine lv_aload_n hx hb dL_law_755 rfl (lv_at hl 1 rfl) ?_
    refine lv_aload_n hx hb dL_law_756 rfl (lv_at hl 3 rfl) ?_
    refine lv_iload_n hx hb dL_law_757 rfl (lv_at hl 0 rfl) ?_
    refine lv_iconst (v := 1) hx hb dL_law_758 (by decide) ?_
    refine lv_iadd hx hb dL_law_759 ?_
    refine lv_topi (fun xb_1 exb_1 => ?_)
    have ixb_1 : xb_1.toInt = i.toInt + 1 := gI_add exb_1 hi (by decide) (by decide)
    refine va_sld hx hb hX hbl hbA hS (vp_in_iff.mpr ⟨by have z := hi.1; omega, by omega⟩) dL_law_760 ?_
    refine lv_topi (fun yb_1 eyb_1 => ?_)
    refine lv_aload_n hx hb dL_law_761 rfl (lv_at hl 3 rfl) ?_
    refine lv_iload_n hx hb dL_law_762 rfl (lv_at hl 0 rfl) ?_
    refine lv_iconst (v := 2) hx hb dL_law_763 (by decide) ?_
    refine lv_iadd hx hb dL_law_764 ?_
    refine lv_topi (fun xb_2 exb_2 => ?_)
    have ixb_2 : xb_2.toInt = i.toInt + 2 := gI_add exb_2 hi (by decide) (by decide)
    refine va_sld hx hb hX hbl hbA hS (vp_in_iff.mpr ⟨by have z := hi.1; omega, by omega⟩) dL_law_765 ?_
    refine lv_topi (fun yb_2 eyb_2 => ?_)
    refine lv_aload_n hx hb dL_law_766 rfl (lv_at hl 3 rfl) ?_
    refine lv_iload_n hx hb dL_law_767 rfl (lv_at hl 0 rfl) ?_
    refine lv_iconst (v := 3) hx hb dL_law_768 (by decide) ?_
    refine lv_iadd hx hb dL_law_769 ?_
    refine lv_topi (fun xb_3 exb_3 => ?_)
    have ixb_3 : xb_3.toInt = i.toInt + 3 := gI_add exb_3 hi (by decide) (by decide)
    refine va_sld hx hb hX hbl hbA hS (vp_in_iff.mpr ⟨by have z := hi.1; omega, by omega⟩) dL_law_770 ?_
    refine lv_topi (fun yb_3 eyb_3 => ?_)
    refine gz_iF hP hD hS hA (va_runV (As := [.int yb_1, .int yb_2, .int yb_3]) (rest := []) ⟨hx, hb, hml, hown, hts⟩ (f_X11_had_z l G k sa _ am T hT.1 hz hun yb_1 yb_2 yb_3) (cwV 3 hts g_L_97_r_had_z rfl rfl rfl (by decide +kernel) ⟨(Nat.le_of_ble_eq_true rfl), (Nat.le_of_ble_eq_true rfl)⟩) ⟨gP.bl, va_recv hE.K hP (ci := 11) (q0 := 0) rfl rfl, gz_preF hE hZ hS hA hP hD⟩ rfl rfl hl.1 rfl (lv_room (Nat.le_of_ble_eq_true rfl)) dL_law_771 ⟨(Nat.le_of_ble_eq_true rfl), (Nat.le_of_ble_eq_true rfl)⟩) (fun rm um H locs hm hP hD hS => ?_)
    obtain ⟨hTm, hXm⟩ := hm
    refine lv_pop hx hb dL_law_774 rfl ?_
    refine lv_goto (tgt := 1253) hx hb dL_law_775 (by decide) ?_
    exact K ux um H locs hGx hTm (gLk_mv hLk hXx hXm) hP hD hS
  · refine lv_aload_n hx hb dL_law_755 rfl (lv_at hl 1 rfl) ?_
    refine lv_aload_n hx hb dL_law_756 rfl (lv_at hl 3 rfl) ?_
    refine lv_iload_n hx hb dL_law_757 rfl (lv_at hl 0 rfl) ?_
    refine lv_iconst (v := 1) hx hb dL_law_758 (by decide) ?_
    refine lv_iadd hx hb dL_law_759 ?_
    refine lv_topi (fun xb_1 exb_1 => ?_)
    have ixb_1 : xb_1.toInt = i.toInt + 1 := gI_add exb_1 hi (by decide) (by decide)
    refine va_sld hx hb hX hbl hbA hS (vp_in_iff.mpr ⟨by have z := hi.1; omega, by omega⟩) dL_law_760 ?_
    refine lv_topi (fun yb_1 eyb_1 => ?_)
    refine lv_aload_n hx hb dL_law_761 rfl (lv_at hl 3 rfl) ?_
    refine lv_iload_n hx hb dL_law_762 rfl (lv_at hl 0 rfl) ?_
    refine lv_iconst (v := 2) hx hb dL_law_763 (by decide) ?_
    refine lv_iadd hx hb dL_law_764 ?_
    refine lv_topi (fun xb_2 exb_2 => ?_)
    have ixb_2 : xb_2.toInt = i.toInt + 2 := gI_add exb_2 hi (by decide) (by decide)
    refine va_sld hx hb hX hbl hbA hS (vp_in_iff.mpr ⟨by have z := hi.1; omega, by omega⟩) dL_law_765 ?_
    refine lv_topi (fun yb_2 eyb_2 => ?_)
    refine lv_aload_n hx hb dL_law_766 rfl (lv_at hl 3 rfl) ?_
    refine lv_iload_n hx hb dL_law_767 rfl (lv_at hl 0 rfl) ?_
    refine lv_iconst (v := 3) hx hb dL_law_768 (by decide) ?_
    refine lv_iadd hx hb dL_law_769 ?_
    refine lv_topi (fun xb_3 exb_3 => ?_)
    have ixb_3 : xb_3.toInt = i.toInt + 3 := gI_add exb_3 hi (by decide) (by decide)
    refine va_sld hx hb hX hbl hbA hS (vp_in_iff.mpr ⟨by have z := hi.1; omega, by omega⟩) dL_law_770 ?_
    refine lv_topi (fun yb_3 eyb_3 => ?_)
    refine gz_iF hP hD hS hA (va_runV (As := [.int yb_1, .int yb_2, .int yb_3]) (rest := []) ⟨hx, hb, hml, hown, hts⟩ (f_X11_had_c l G k sa _ am T hT.1 hc yb_1 yb_2 yb_3) (cwV 3 hts g_L_97_r_had_c rfl rfl rfl (by decide +kernel) ⟨(Nat.le_of_ble_eq_true rfl), (Nat.le_of_ble_eq_true rfl)⟩) ⟨gP.bl, va_recv hE.K hP (ci := 11) (q0 := 0) rfl rfl, gz_preF hE hZ hS hA hP hD⟩ rfl rfl hl.1 rfl (lv_room (Nat.le_of_ble_eq_true rfl)) dL_law_771 ⟨(Nat.le_of_ble_eq_true rfl), (Nat.le_of_ble_eq_true rfl)⟩) (fun rm um H locs hm hP hD hS => ?_)
    obtain ⟨hTm, hXm⟩ := hm
    refine lv_pop hx hb dL_law_774 rfl ?_
    refine lv_goto (tgt := 1253) hx hb dL_law_775 (by decide) ?_
    exact K ux um H locs hGx hTm (gLk_mv hLk hXx hXm) hP hD hS
set_option maxHeartbeats 4000000 in
set_option maxRecDepth 100000 in
theorem law_tangle {p : Program} {e : Env} {s : State} {m : MethodId} {below : List Frame} {meth : Method} {c : Code} (l : Launch) (G : va_G) (k : Nat → ClassId) (sa : Nat → Nat) {b L : Nat} {xs : Nat → Int32} (C0 : lw_At p s m meth c b L xs) (hE : gE G k sa s) {A : Nat → Prop} (hAe : A = fun q => s.heap.size ≤ q) (hZ : gZ sa A s s.heap) (ad am : Nat → Nat) (S T : gS) (hG : gGI ad S) (hT : gGM T) (hLk : gLk S T) (i : Int32) (hi : gIv 0 3066 i) (hiL : i.toInt + 6 ≤ (L : Int)) {H : Heap} {locs : List Loc} {ls : Array Slot} (hP : va_P G vwCl (ggW k ad S ++ mmW k am T) H) (hD : va_D A (ggW k ad S ++ mmW k am T)) (hS : va_S A s.heap H locs) (hl : lv_has ls 4 [(3, .int i), (2, .ref (am 0)), (1, .ref (ad 100)), (0, .ref b)]) (K : ∀ (S' T' : gS) (H' : Heap) (locs' : List Loc), gGI ad S' → gGM T' → gLk S' T' → va_P G vwCl (ggW k ad S' ++ mmW k am T') H' → va_D A (ggW k ad S' ++ mmW k am T') → va_S A s.heap H' locs' → W p l e room_1 s m #[Value.ref b] below meth c H' locs' 285 12688 (lw_Z below #[Value.ref b] s) (F0 m 1253 ls [])) : W p l e room_1 s m #[Value.ref b] below meth c H locs 285 12688 (lw_Z below #[Value.ref b] s) (F0 m 778 ls []) := by
  obtain ⟨hx, hb, hr, hml, hown, hts, hX, hbl, hlocks, hgv⟩ := id C0
  have hA : ∀ q : Nat, s.heap.size ≤ q → A q := by rw [hAe]; exact fun _ h => h
  have hbA : ¬ A b := by rw [hAe]; exact Nat.not_le.mpr hbl
  refine lv_aload_n hx hb dL_law_778 rfl (lv_at hl 2 rfl) ?_
  refine lv_aload_n hx hb dL_law_779 rfl (lv_at hl 3 rfl) ?_
  refine lv_iload_n hx hb dL_law_780 rfl (lv_at hl 0 rfl) ?_
  refine lv_iconst (v := 1) hx hb dL_law_781 (by decide) ?_
  refine lv_iadd hx hb dL_law_782 ?_
  refine lv_topi (fun xa_1 exa_1 => ?_)
  have ixa_1 : xa_1.toInt = i.toInt + 1 := gI_add exa_1 hi (by decide) (by decide)
  refine va_sld hx hb hX hbl hbA hS (vp_in_iff.mpr ⟨by have z := hi.1; omega, by omega⟩) dL_law_783 ?_
  refine lv_topi (fun ya_1 eya_1 => ?_)
  refine gz_iF hP hD hS hA (va_runV (As := [.int ya_1]) (rest := []) ⟨hx, hb, hml, hown, hts⟩ (f_X10_tangle l G k sa _ ad S hG ya_1) (cwV 1 hts g_L_98_s_X10_tangle rfl rfl rfl (by decide +kernel) ⟨(Nat.le_of_ble_eq_true rfl), (Nat.le_of_ble_eq_true rfl)⟩) ⟨gP.bl, va_recv hE.K hP (ci := 10) (q0 := 0) rfl rfl, gz_preF hE hZ hS hA hP hD⟩ rfl rfl hl.1 rfl (lv_room (Nat.le_of_ble_eq_true rfl)) dL_law_784 ⟨(Nat.le_of_ble_eq_true rfl), (Nat.le_of_ble_eq_true rfl)⟩) (fun rx ux H locs hx hP hD hS => ?_)
  obtain ⟨hGx, hXx⟩ := hx
  refine lv_pop hx hb dL_law_787 rfl ?_
  rcases hT.2 with ⟨hz, hun⟩ | hc
  · refine lv_aload_n hx hb dL_law_788 rfl (lv_at hl 1 rfl) ?_
    refine lv_aload_n hx hb dL_law_789 rfl (lv_at hl 3 rfl) ?_
    refine lv_iload_n hx hb dL_law_790 rfl (lv_at hl 0 rfl) ?_
    refine lv_iconst (v := 1) hx hb dL_law_791 (by decide) ?_
    refine lv_iadd hx hb dL_law_792 ?_
    refine lv_topi (fun xb_1 exb_1 => ?_)
    have ixb_1 : xb_1.toInt = i.toInt + 1 := gI_add exb_1 hi (by decide) (by decide)
    refine va_sld hx hb hX hbl hbA hS (vp_in_iff.mpr ⟨by have z := hi.1; omega, by omega⟩) dL_law_793 ?_
    refine lv_topi (fun yb_1 eyb_1 => ?_)
    refine gz_iF hP hD hS hA (va_runV (As := [.int yb_1]) (rest := []) ⟨hx, hb, hml, hown, hts⟩ (f_X11_tangle_z l G k sa _ am T hT.1 hz hun yb_1) (cwV 1 hts g_L_101_r_tangle_z rfl rfl rfl (by decide +kernel) ⟨(Nat.le_of_ble_eq_true rfl), (Nat.le_of_ble_eq_true rfl)⟩) ⟨gP.bl, va_recv hE.K hP (ci := 11) (q0 := 0) rfl rfl, gz_preF hE hZ hS hA hP hD⟩ rfl rfl hl.1 rfl (lv_room (Nat.le_of_ble_eq_true rfl)) dL_law_794 ⟨(Nat.le_of_ble_eq_true rfl), (Nat.le_of_ble_eq_true rfl)⟩) (fun rm um H locs hm hP hD hS => ?_)
    obtain ⟨hTm, hXm⟩ := hm
    refine lv_pop hx hb dL_law_797 rfl ?_
    refine lv_goto (tgt := 1253) hx hb dL_law_798 (by decide) ?_
    exact K ux um H locs hGx hTm (gLk_mv hLk hXx hXm) hP hD hS
  · refine lv_aload_n hx hb dL_law_788 rfl (lv_at hl 1 rfl) ?_
    refine lv_aload_n hx hb dL_law_789 rfl (lv_at hl 3 rfl) ?_
    refine lv_iload_n hx hb dL_law_790 rfl (lv_at hl 0 rfl) ?_
    refine lv_iconst (v := 1) hx hb dL_law_791 (by decide) ?_
    refine lv_iadd hx hb dL_law_792 ?_
    refine lv_topi (fun xb_1 exb_1 => ?_)
    have ixb_1 : xb_1.toInt = i.toInt + 1 := gI_add exb_1 hi (by decide) (by decide)
    refine va_sld hx hb hX hbl hbA hS (vp_in_iff.mpr ⟨by have z := hi.1; omega, by omega⟩) dL_law_793 ?_
    refine lv_topi (fun yb_1 eyb_1 => ?_)
    refine gz_iF hP hD hS hA (va_runV (As := [.int yb_1]) (rest := []) ⟨hx, hb, hml, hown, hts⟩ (f_X11_tangle_c l G k sa _ am T hT.1 hc yb_1) (cwV 1 hts g_L_101_r_tangle_c rfl rfl rfl (by decide +kernel) ⟨(Nat.le_of_ble_eq_true rfl), (Nat.le_of_ble_eq_true rfl)⟩) ⟨gP.bl, va_recv hE.K hP (ci := 11) (q0 := 0) rfl rfl, gz_preF hE hZ hS hA hP hD⟩ rfl rfl hl.1 rfl (lv_room (Nat.le_of_ble_eq_true rfl)) dL_law_794 ⟨(Nat.le_of_ble_eq_true rfl), (Nat.le_of_ble_eq_true rfl)⟩) (fun rm um H locs hm hP hD hS => ?_)
    obtain ⟨hTm, hXm⟩ := hm
    refine lv_pop hx hb dL_law_797 rfl ?_
    refine lv_goto (tgt := 1253) hx hb dL_law_798 (by decide) ?_
    exact K ux um H locs hGx hTm (gLk_mv hLk hXx hXm) hP hD hS
set_option maxHeartbeats 4000000 in
set_option maxRecDepth 100000 in
theorem law_flock {p : Program} {e : Env} {s : State} {m : MethodId} {below : List Frame} {meth : Method} {c : Code} (l : Launch) (G : va_G) (k : Nat → ClassId) (sa : Nat → Nat) {b L : Nat} {xs : Nat → Int32} (C0 : lw_At p s m meth c b L xs) (hE : gE G k sa s) {A : Nat → Prop} (hAe : A = fun q => s.heap.size ≤ q) (hZ : gZ sa A s s.heap) (ad am : Nat → Nat) (S T : gS) (hG : gGI ad S) (hT : gGM T) (hLk : gLk S T) (i : Int32) (hi : gIv 0 3066 i) (hiL : i.toInt + 6 ≤ (L : Int)) {H : Heap} {locs : List Loc} {ls : Array Slot} (hP : va_P G vwCl (ggW k ad S ++ mmW k am T) H) (hD : va_D A (ggW k ad S ++ mmW k am T)) (hS : va_S A s.heap H locs) (hl : lv_has ls 4 [(3, .int i), (2, .ref (am 0)), (1, .ref (ad 100)), (0, .ref b)]) (K : ∀ (S' T' : gS) (H' : Heap) (locs' : List Loc), gGI ad S' → gGM T' → gLk S' T' → va_P G vwCl (ggW k ad S' ++ mmW k am T') H' → va_D A (ggW k ad S' ++ mmW k am T') → va_S A s.heap H' locs' → W p l e room_1 s m #[Value.ref b] below meth c H' locs' 285 12688 (lw_Z below #[Value.ref b] s) (F0 m 1253 ls [])) : W p l e room_1 s m #[Value.ref b] below meth c H locs 285 12688 (lw_Z below #[Value.ref b] s) (F0 m 801 ls []) := by
  obtain ⟨hx, hb, hr, hml, hown, hts, hX, hbl, hlocks, hgv⟩ := id C0
  have hA : ∀ q : Nat, s.heap.size ≤ q → A q := by rw [hAe]; exact fun _ h => h
  have hbA : ¬ A b := by rw [hAe]; exact Nat.not_le.mpr hbl
  refine lv_aload_n hx hb dL_law_801 rfl (lv_at hl 2 rfl) ?_
  refine lv_aload_n hx hb dL_law_802 rfl (lv_at hl 3 rfl) ?_
  refine lv_iload_n hx hb dL_law_803 rfl (lv_at hl 0 rfl) ?_
  refine lv_iconst (v := 1) hx hb dL_law_804 (by decide) ?_
  refine lv_iadd hx hb dL_law_805 ?_
  refine lv_topi (fun xa_1 exa_1 => ?_)
  have ixa_1 : xa_1.toInt = i.toInt + 1 := gI_add exa_1 hi (by decide) (by decide)
  refine va_sld hx hb hX hbl hbA hS (vp_in_iff.mpr ⟨by have z := hi.1; omega, by omega⟩) dL_law_806 ?_
  refine lv_topi (fun ya_1 eya_1 => ?_)
  refine lv_aload_n hx hb dL_law_807 rfl (lv_at hl 3 rfl) ?_
  refine lv_iload_n hx hb dL_law_808 rfl (lv_at hl 0 rfl) ?_
  refine lv_iconst (v := 2) hx hb dL_law_809 (by decide) ?_
  refine lv_iadd hx hb dL_law_810 ?_
  refine lv_topi (fun xa_2 exa_2 => ?_)
  have ixa_2 : xa_2.toInt = i.toInt + 2 := gI_add exa_2 hi (by decide) (by decide)
  refine va_sld hx hb hX hbl hbA hS (vp_in_iff.mpr ⟨by have z := hi.1; omega, by omega⟩) dL_law_811 ?_
  refine lv_topi (fun ya_2 eya_2 => ?_)
  refine gz_iF hP hD hS hA (va_runV (As := [.int ya_1, .int ya_2]) (rest := []) ⟨hx, hb, hml, hown, hts⟩ (f_X10_flock l G k sa _ ad S hG ya_1 ya_2) (cwV 2 hts g_L_102_s_X10_flock rfl rfl rfl (by decide +kernel) ⟨(Nat.le_of_ble_eq_true rfl), (Nat.le_of_ble_eq_true rfl)⟩) ⟨gP.bl, va_recv hE.K hP (ci := 10) (q0 := 0) rfl rfl, gz_preF hE hZ hS hA hP hD⟩ rfl rfl hl.1 rfl (lv_room (Nat.le_of_ble_eq_true rfl)) dL_law_812 ⟨(Nat.le_of_ble_eq_true rfl), (Nat.le_of_ble_eq_true rfl)⟩) (fun rx ux H locs hx hP hD hS => ?_)
  obtain ⟨hGx, hXx⟩ := hx
  refine lv_pop hx hb dL_law_815 rfl ?_
  rcases hT.2 with ⟨hz, hun⟩ | hc
  · refine lv_aload_n hx hb dL_law_816 rfl (lv_at hl 1 rfl) ?_
    refine lv_aload_n hx hb dL_law_817 rfl (lv_at hl 3 rfl) ?_
    refine lv_iload_n hx hb dL_law_818 rfl (lv_at hl 0 rfl) ?_
    refine lv_iconst (v := 1) hx hb dL_law_819 (by decide) ?_
    refine lv_iadd hx hb dL_law_820 ?_
    refine lv_topi (fun xb_1 exb_1 => ?_)
    have ixb_1 : xb_1.toInt = i.toInt + 1 := gI_add exb_1 hi (by decide) (by decide)
    refine va_sld hx hb hX hbl hbA hS (vp_in_iff.mpr ⟨by have z := hi.1; omega, by omega⟩) dL_law_821 ?_
    refine lv_topi (fun yb_1 eyb_1 => ?_)
    refine lv_aload_n hx hb dL_law_822 rfl (lv_at hl 3 rfl) ?_
    refine lv_iload_n hx hb dL_law_823 rfl (lv_at hl 0 rfl) ?_
    refine lv_iconst (v := 2) hx hb dL_law_824 (by decide) ?_
    refine lv_iadd hx hb dL_law_825 ?_
    refine lv_topi (fun xb_2 exb_2 => ?_)
    have ixb_2 : xb_2.toInt = i.toInt + 2 := gI_add exb_2 hi (by decide) (by decide)
    refine va_sld hx hb hX hbl hbA hS (vp_in_iff.mpr ⟨by have z := hi.1; omega, by omega⟩) dL_law_826 ?_
    refine lv_topi (fun yb_2 eyb_2 => ?_)
    refine gz_iF hP hD hS hA (va_runV (As := [.int yb_1, .int yb_2]) (rest := []) ⟨hx, hb, hml, hown, hts⟩ (f_X11_flock_z l G k sa _ am T hT.1 hz hun yb_1 yb_2) (cwV 2 hts g_L_105_r_flock_z rfl rfl rfl (by decide +kernel) ⟨(Nat.le_of_ble_eq_true rfl), (Nat.le_of_ble_eq_true rfl)⟩) ⟨gP.bl, va_recv hE.K hP (ci := 11) (q0 := 0) rfl rfl, gz_preF hE hZ hS hA hP hD⟩ rfl rfl hl.1 rfl (lv_room (Nat.le_of_ble_eq_true rfl)) dL_law_827 ⟨(Nat.le_of_ble_eq_true rfl), (Nat.le_of_ble_eq_true rfl)⟩) (fun rm um H locs hm hP hD hS => ?_)
    obtain ⟨hTm, hXm⟩ := hm
    refine lv_pop hx hb dL_law_830 rfl ?_
    refine lv_goto (tgt := 1253) hx hb dL_law_831 (by decide) ?_
    exact K ux um H locs hGx hTm (gLk_mv hLk hXx hXm) hP hD hS
  · refine lv_aload_n hx hb dL_law_816 rfl (lv_at hl 1 rfl) ?_
    refine lv_aload_n hx hb dL_law_817 rfl (lv_at hl 3 rfl) ?_
    refine lv_iload_n hx hb dL_law_818 rfl (lv_at hl 0 rfl) ?_
    refine lv_iconst (v := 1) hx hb dL_law_819 (by decide) ?_
    refine lv_iadd hx hb dL_law_820 ?_
    refine lv_topi (fun xb_1 exb_1 => ?_)
    have ixb_1 : xb_1.toInt = i.toInt + 1 := gI_add exb_1 hi (by decide) (by decide)
    refine va_sld hx hb hX hbl hbA hS (vp_in_iff.mpr ⟨by have z := hi.1; omega, by omega⟩) dL_law_821 ?_
    refine lv_topi (fun yb_1 eyb_1 => ?_)
    refine lv_aload_n hx hb dL_law_822 rfl (lv_at hl 3 rfl) ?_
    refine lv_iload_n hx hb dL_law_823 rfl (lv_at hl 0 rfl) ?_
    refine lv_iconst (v := 2) hx hb dL_law_824 (by decide) ?_
    refine lv_iadd hx hb dL_law_825 ?_
    refine lv_topi (fun xb_2 exb_2 => ?_)
    have ixb_2 : xb_2.toInt = i.toInt + 2 := gI_add exb_2 hi (by decide) (by decide)
    refine va_sld hx hb hX hbl hbA hS (vp_in_iff.mpr ⟨by have z := hi.1; omega, by omega⟩) dL_law_826 ?_
    refine lv_topi (fun yb_2 eyb_2 => ?_)
    refine gz_iF hP hD hS hA (va_runV (As := [.int yb_1, .int yb_2]) (rest := []) ⟨hx, hb, hml, hown, hts⟩ (f_X11_flock_c l G k sa _ am T hT.1 hc yb_1 yb_2) (cwV 2 hts g_L_105_r_flock_c rfl rfl rfl (by decide +kernel) ⟨(Nat.le_of_ble_eq_true rfl), (Nat.le_of_ble_eq_true rfl)⟩) ⟨gP.bl, va_recv hE.K hP (ci := 11) (q0 := 0) rfl rfl, gz_preF hE hZ hS hA hP hD⟩ rfl rfl hl.1 rfl (lv_room (Nat.le_of_ble_eq_true rfl)) dL_law_827 ⟨(Nat.le_of_ble_eq_true rfl), (Nat.le_of_ble_eq_true rfl)⟩) (fun rm um H locs hm hP hD hS => ?_)
    obtain ⟨hTm, hXm⟩ := hm
    refine lv_pop hx hb dL_law_830 rfl ?_
    refine lv_goto (tgt := 1253) hx hb dL_law_831 (by decide) ?_
    exact K ux um H locs hGx hTm (gLk_mv hLk hXx hXm) hP hD hS
set_option maxHeartbeats 4000000 in
set_option maxRecDepth 100000 in
theorem law_bestGate {p : Program} {e : Env} {s : State} {m : MethodId} {below : List Frame} {meth : Method} {c : Code} (l : Launch) (G : va_G) (k : Nat → ClassId) (sa : Nat → Nat) {b L : Nat} {xs : Nat → Int32} (C0 : lw_At p s m meth c b L xs) (hE : gE G k sa s) {A : Nat → Prop} (hAe : A = fun q => s.heap.size ≤ q) (hZ : gZ sa A s s.heap) (ad am : Nat → Nat) (S T : gS) (hG : gGI ad S) (hT : gGM T) (hLk : gLk S T) (i : Int32) (hi : gIv 0 3066 i) (hiL : i.toInt + 6 ≤ (L : Int)) {H : Heap} {locs : List Loc} {ls : Array Slot} (hP : va_P G vwCl (ggW k ad S ++ mmW k am T) H) (hD : va_D A (ggW k ad S ++ mmW k am T)) (hS : va_S A s.heap H locs) (hl : lv_has ls 4 [(3, .int i), (2, .ref (am 0)), (1, .ref (ad 100)), (0, .ref b)]) (K : ∀ (S' T' : gS) (H' : Heap) (locs' : List Loc), gGI ad S' → gGM T' → gLk S' T' → va_P G vwCl (ggW k ad S' ++ mmW k am T') H' → va_D A (ggW k ad S' ++ mmW k am T') → va_S A s.heap H' locs' → W p l e room_1 s m #[Value.ref b] below meth c H' locs' 285 12688 (lw_Z below #[Value.ref b] s) (F0 m 1253 ls [])) : W p l e room_1 s m #[Value.ref b] below meth c H locs 285 12688 (lw_Z below #[Value.ref b] s) (F0 m 834 ls []) := by
  obtain ⟨hx, hb, hr, hml, hown, hts, hX, hbl, hlocks, hgv⟩ := id C0
  have hA : ∀ q : Nat, s.heap.size ≤ q → A q := by rw [hAe]; exact fun _ h => h
  have hbA : ¬ A b := by rw [hAe]; exact Nat.not_le.mpr hbl
  refine lv_aload_n hx hb dL_law_834 rfl (lv_at hl 2 rfl) ?_
  refine lv_aload_n hx hb dL_law_835 rfl (lv_at hl 3 rfl) ?_
  refine lv_iload_n hx hb dL_law_836 rfl (lv_at hl 0 rfl) ?_
  refine lv_iconst (v := 1) hx hb dL_law_837 (by decide) ?_
  refine lv_iadd hx hb dL_law_838 ?_
  refine lv_topi (fun xa_1 exa_1 => ?_)
  have ixa_1 : xa_1.toInt = i.toInt + 1 := gI_add exa_1 hi (by decide) (by decide)
  refine va_sld hx hb hX hbl hbA hS (vp_in_iff.mpr ⟨by have z := hi.1; omega, by omega⟩) dL_law_839 ?_
  refine lv_topi (fun ya_1 eya_1 => ?_)
  refine lv_aload_n hx hb dL_law_840 rfl (lv_at hl 3 rfl) ?_
  refine lv_iload_n hx hb dL_law_841 rfl (lv_at hl 0 rfl) ?_
  refine lv_iconst (v := 2) hx hb dL_law_842 (by decide) ?_
  refine lv_iadd hx hb dL_law_843 ?_
  refine lv_topi (fun xa_2 exa_2 => ?_)
  have ixa_2 : xa_2.toInt = i.toInt + 2 := gI_add exa_2 hi (by decide) (by decide)
  refine va_sld hx hb hX hbl hbA hS (vp_in_iff.mpr ⟨by have z := hi.1; omega, by omega⟩) dL_law_844 ?_
  refine lv_topi (fun ya_2 eya_2 => ?_)
  refine gz_iF hP hD hS hA (va_runV (As := [.int ya_1, .int ya_2]) (rest := []) ⟨hx, hb, hml, hown, hts⟩ (f_X10_bestGate l G k sa _ ad S hG ya_1 ya_2) (cwV 2 hts g_L_106_s_X10_bestGate rfl rfl rfl (by decide +kernel) ⟨(Nat.le_of_ble_eq_true rfl), (Nat.le_of_ble_eq_true rfl)⟩) ⟨gP.bl, va_recv hE.K hP (ci := 10) (q0 := 0) rfl rfl, gz_preF hE hZ hS hA hP hD⟩ rfl rfl hl.1 rfl (lv_room (Nat.le_of_ble_eq_true rfl)) dL_law_845 ⟨(Nat.le_of_ble_eq_true rfl), (Nat.le_of_ble_eq_true rfl)⟩) (fun rx ux H locs hx hP hD hS => ?_)
  obtain ⟨hGx, hXx⟩ := hx
  refine lv_pop hx hb dL_law_848 rfl ?_
  rcases hT.2 with ⟨hz, hun⟩ | hc
  · refine lv_aload_n hx hb dL_law_849 rfl (lv_at hl 1 rfl) ?_
    refine lv_aload_n hx hb dL_law_850 rfl (lv_at hl 3 rfl) ?_
    refine lv_iload_n hx hb dL_law_851 rfl (lv_at hl 0 rfl) ?_
    refine lv_iconst (v := 1) hx hb dL_law_852 (by decide) ?_
    refine lv_iadd hx hb dL_law_853 ?_
    refine lv_topi (fun xb_1 exb_1 => ?_)
    have ixb_1 : xb_1.toInt = i.toInt + 1 := gI_add exb_1 hi (by decide) (by decide)
    refine va_sld hx hb hX hbl hbA hS (vp_in_iff.mpr ⟨by have z := hi.1; omega, by omega⟩) dL_law_854 ?_
    refine lv_topi (fun yb_1 eyb_1 => ?_)
    refine lv_aload_n hx hb dL_law_855 rfl (lv_at hl 3 rfl) ?_
    refine lv_iload_n hx hb dL_law_856 rfl (lv_at hl 0 rfl) ?_
    refine lv_iconst (v := 2) hx hb dL_law_857 (by decide) ?_
    refine lv_iadd hx hb dL_law_858 ?_
    refine lv_topi (fun xb_2 exb_2 => ?_)
    have ixb_2 : xb_2.toInt = i.toInt + 2 := gI_add exb_2 hi (by decide) (by decide)
    refine va_sld hx hb hX hbl hbA hS (vp_in_iff.mpr ⟨by have z := hi.1; omega, by omega⟩) dL_law_859 ?_
    refine lv_topi (fun yb_2 eyb_2 => ?_)
    refine gz_iF hP hD hS hA (va_runV (As := [.int yb_1, .int yb_2]) (rest := []) ⟨hx, hb, hml, hown, hts⟩ (f_X11_bestGate_z l G k sa _ am T hT.1 hz hun yb_1 yb_2) (cwV 2 hts g_L_109_r_bestGate_z rfl rfl rfl (by decide +kernel) ⟨(Nat.le_of_ble_eq_true rfl), (Nat.le_of_ble_eq_true rfl)⟩) ⟨gP.bl, va_recv hE.K hP (ci := 11) (q0 := 0) rfl rfl, gz_preF hE hZ hS hA hP hD⟩ rfl rfl hl.1 rfl (lv_room (Nat.le_of_ble_eq_true rfl)) dL_law_860 ⟨(Nat.le_of_ble_eq_true rfl), (Nat.le_of_ble_eq_true rfl)⟩) (fun rm um H locs hm hP hD hS => ?_)
    obtain ⟨hTm, hXm⟩ := hm
    refine lv_pop hx hb dL_law_863 rfl ?_
    refine lv_goto (tgt := 1253) hx hb dL_law_864 (by decide) ?_
    exact K ux um H locs hGx hTm (gLk_mv hLk hXx hXm) hP hD hS
  · refine lv_aload_n hx hb dL_law_849 rfl (lv_at hl 1 rfl) ?_
    refine lv_aload_n hx hb dL_law_850 rfl (lv_at hl 3 rfl) ?_
    refine lv_iload_n hx hb dL_law_851 rfl (lv_at hl 0 rfl) ?_
    refine lv_iconst (v := 1) hx hb dL_law_852 (by decide) ?_
    refine lv_iadd hx hb dL_law_853 ?_
    refine lv_topi (fun xb_1 exb_1 => ?_)
    have ixb_1 : xb_1.toInt = i.toInt + 1 := gI_add exb_1 hi (by decide) (by decide)
    refine va_sld hx hb hX hbl hbA hS (vp_in_iff.mpr ⟨by have z := hi.1; omega, by omega⟩) dL_law_854 ?_
    refine lv_topi (fun yb_1 eyb_1 => ?_)
    refine lv_aload_n hx hb dL_law_855 rfl (lv_at hl 3 rfl) ?_
    refine lv_iload_n hx hb dL_law_856 rfl (lv_at hl 0 rfl) ?_
    refine lv_iconst (v := 2) hx hb dL_law_857 (by decide) ?_
    refine lv_iadd hx hb dL_law_858 ?_
    refine lv_topi (fun xb_2 exb_2 => ?_)
    have ixb_2 : xb_2.toInt = i.toInt + 2 := gI_add exb_2 hi (by decide) (by decide)
    refine va_sld hx hb hX hbl hbA hS (vp_in_iff.mpr ⟨by have z := hi.1; omega, by omega⟩) dL_law_859 ?_
    refine lv_topi (fun yb_2 eyb_2 => ?_)
    refine gz_iF hP hD hS hA (va_runV (As := [.int yb_1, .int yb_2]) (rest := []) ⟨hx, hb, hml, hown, hts⟩ (f_X11_bestGate_c l G k sa _ am T hT.1 hc yb_1 yb_2) (cwV 2 hts g_L_109_r_bestGate_c rfl rfl rfl (by decide +kernel) ⟨(Nat.le_of_ble_eq_true rfl), (Nat.le_of_ble_eq_true rfl)⟩) ⟨gP.bl, va_recv hE.K hP (ci := 11) (q0 := 0) rfl rfl, gz_preF hE hZ hS hA hP hD⟩ rfl rfl hl.1 rfl (lv_room (Nat.le_of_ble_eq_true rfl)) dL_law_860 ⟨(Nat.le_of_ble_eq_true rfl), (Nat.le_of_ble_eq_true rfl)⟩) (fun rm um H locs hm hP hD hS => ?_)
    obtain ⟨hTm, hXm⟩ := hm
    refine lv_pop hx hb dL_law_863 rfl ?_
    refine lv_goto (tgt := 1253) hx hb dL_law_864 (by decide) ?_
    exact K ux um H locs hGx hTm (gLk_mv hLk hXx hXm) hP hD hS
set_option maxHeartbeats 4000000 in
set_option maxRecDepth 100000 in
theorem law_bestWinds {p : Program} {e : Env} {s : State} {m : MethodId} {below : List Frame} {meth : Method} {c : Code} (l : Launch) (G : va_G) (k : Nat → ClassId) (sa : Nat → Nat) {b L : Nat} {xs : Nat → Int32} (C0 : lw_At p s m meth c b L xs) (hE : gE G k sa s) {A : Nat → Prop} (hAe : A = fun q => s.heap.size ≤ q) (hZ : gZ sa A s s.heap) (ad am : Nat → Nat) (S T : gS) (hG : gGI ad S) (hT : gGM T) (hLk : gLk S T) (i : Int32) (hi : gIv 0 3066 i) (hiL : i.toInt + 6 ≤ (L : Int)) {H : Heap} {locs : List Loc} {ls : Array Slot} (hP : va_P G vwCl (ggW k ad S ++ mmW k am T) H) (hD : va_D A (ggW k ad S ++ mmW k am T)) (hS : va_S A s.heap H locs) (hl : lv_has ls 4 [(3, .int i), (2, .ref (am 0)), (1, .ref (ad 100)), (0, .ref b)]) (K : ∀ (S' T' : gS) (H' : Heap) (locs' : List Loc), gGI ad S' → gGM T' → gLk S' T' → va_P G vwCl (ggW k ad S' ++ mmW k am T') H' → va_D A (ggW k ad S' ++ mmW k am T') → va_S A s.heap H' locs' → W p l e room_1 s m #[Value.ref b] below meth c H' locs' 285 12688 (lw_Z below #[Value.ref b] s) (F0 m 1253 ls [])) : W p l e room_1 s m #[Value.ref b] below meth c H locs 285 12688 (lw_Z below #[Value.ref b] s) (F0 m 867 ls []) := by
  obtain ⟨hx, hb, hr, hml, hown, hts, hX, hbl, hlocks, hgv⟩ := id C0
  have hA : ∀ q : Nat, s.heap.size ≤ q → A q := by rw [hAe]; exact fun _ h => h
  have hbA : ¬ A b := by rw [hAe]; exact Nat.not_le.mpr hbl
  refine lv_aload_n hx hb dL_law_867 rfl (lv_at hl 2 rfl) ?_
  refine lv_aload_n hx hb dL_law_868 rfl (lv_at hl 3 rfl) ?_
  refine lv_iload_n hx hb dL_law_869 rfl (lv_at hl 0 rfl) ?_
  refine lv_iconst (v := 1) hx hb dL_law_870 (by decide) ?_
  refine lv_iadd hx hb dL_law_871 ?_
  refine lv_topi (fun xa_1 exa_1 => ?_)
  have ixa_1 : xa_1.toInt = i.toInt + 1 := gI_add exa_1 hi (by decide) (by decide)
  refine va_sld hx hb hX hbl hbA hS (vp_in_iff.mpr ⟨by have z := hi.1; omega, by omega⟩) dL_law_872 ?_
  refine lv_topi (fun ya_1 eya_1 => ?_)
  refine lv_aload_n hx hb dL_law_873 rfl (lv_at hl 3 rfl) ?_
  refine lv_iload_n hx hb dL_law_874 rfl (lv_at hl 0 rfl) ?_
  refine lv_iconst (v := 2) hx hb dL_law_875 (by decide) ?_
  refine lv_iadd hx hb dL_law_876 ?_
  refine lv_topi (fun xa_2 exa_2 => ?_)
  have ixa_2 : xa_2.toInt = i.toInt + 2 := gI_add exa_2 hi (by decide) (by decide)
  refine va_sld hx hb hX hbl hbA hS (vp_in_iff.mpr ⟨by have z := hi.1; omega, by omega⟩) dL_law_877 ?_
  refine lv_topi (fun ya_2 eya_2 => ?_)
  refine gz_iF hP hD hS hA (va_runV (As := [.int ya_1, .int ya_2]) (rest := []) ⟨hx, hb, hml, hown, hts⟩ (f_X10_bestWinds l G k sa _ ad S hG ya_1 ya_2) (cwV 2 hts g_L_110_s_X10_bestWinds rfl rfl rfl (by decide +kernel) ⟨(Nat.le_of_ble_eq_true rfl), (Nat.le_of_ble_eq_true rfl)⟩) ⟨gP.bl, va_recv hE.K hP (ci := 10) (q0 := 0) rfl rfl, gz_preF hE hZ hS hA hP hD⟩ rfl rfl hl.1 rfl (lv_room (Nat.le_of_ble_eq_true rfl)) dL_law_878 ⟨(Nat.le_of_ble_eq_true rfl), (Nat.le_of_ble_eq_true rfl)⟩) (fun rx ux H locs hx hP hD hS => ?_)
  obtain ⟨hGx, hXx⟩ := hx
  refine lv_pop hx hb dL_law_881 rfl ?_
  rcases hT.2 with ⟨hz, hun⟩ | hc
  · refine lv_aload_n hx hb dL_law_882 rfl (lv_at hl 1 rfl) ?_
    refine lv_aload_n hx hb dL_law_883 rfl (lv_at hl 3 rfl) ?_
    refine lv_iload_n hx hb dL_law_884 rfl (lv_at hl 0 rfl) ?_
    refine lv_iconst (v := 1) hx hb dL_law_885 (by decide) ?_
    refine lv_iadd hx hb dL_law_886 ?_
    refine lv_topi (fun xb_1 exb_1 => ?_)
    have ixb_1 : xb_1.toInt = i.toInt + 1 := gI_add exb_1 hi (by decide) (by decide)
    refine va_sld hx hb hX hbl hbA hS (vp_in_iff.mpr ⟨by have z := hi.1; omega, by omega⟩) dL_law_887 ?_
    refine lv_topi (fun yb_1 eyb_1 => ?_)
    refine lv_aload_n hx hb dL_law_888 rfl (lv_at hl 3 rfl) ?_
    refine lv_iload_n hx hb dL_law_889 rfl (lv_at hl 0 rfl) ?_
    refine lv_iconst (v := 2) hx hb dL_law_890 (by decide) ?_
    refine lv_iadd hx hb dL_law_891 ?_
    refine lv_topi (fun xb_2 exb_2 => ?_)
    have ixb_2 : xb_2.toInt = i.toInt + 2 := gI_add exb_2 hi (by decide) (by decide)
    refine va_sld hx hb hX hbl hbA hS (vp_in_iff.mpr ⟨by have z := hi.1; omega, by omega⟩) dL_law_892 ?_
    refine lv_topi (fun yb_2 eyb_2 => ?_)
    refine gz_iF hP hD hS hA (va_runV (As := [.int yb_1, .int yb_2]) (rest := []) ⟨hx, hb, hml, hown, hts⟩ (f_X11_bestWinds_z l G k sa _ am T hT.1 hz hun yb_1 yb_2) (cwV 2 hts g_L_113_r_bestWinds_z rfl rfl rfl (by decide +kernel) ⟨(Nat.le_of_ble_eq_true rfl), (Nat.le_of_ble_eq_true rfl)⟩) ⟨gP.bl, va_recv hE.K hP (ci := 11) (q0 := 0) rfl rfl, gz_preF hE hZ hS hA hP hD⟩ rfl rfl hl.1 rfl (lv_room (Nat.le_of_ble_eq_true rfl)) dL_law_893 ⟨(Nat.le_of_ble_eq_true rfl), (Nat.le_of_ble_eq_true rfl)⟩) (fun rm um H locs hm hP hD hS => ?_)
    obtain ⟨hTm, hXm⟩ := hm
    refine lv_pop hx hb dL_law_896 rfl ?_
    refine lv_goto (tgt := 1253) hx hb dL_law_897 (by decide) ?_
    exact K ux um H locs hGx hTm (gLk_mv hLk hXx hXm) hP hD hS
  · refine lv_aload_n hx hb dL_law_882 rfl (lv_at hl 1 rfl) ?_
    refine lv_aload_n hx hb dL_law_883 rfl (lv_at hl 3 rfl) ?_
    refine lv_iload_n hx hb dL_law_884 rfl (lv_at hl 0 rfl) ?_
    refine lv_iconst (v := 1) hx hb dL_law_885 (by decide) ?_
    refine lv_iadd hx hb dL_law_886 ?_
    refine lv_topi (fun xb_1 exb_1 => ?_)
    have ixb_1 : xb_1.toInt = i.toInt + 1 := gI_add exb_1 hi (by decide) (by decide)
    refine va_sld hx hb hX hbl hbA hS (vp_in_iff.mpr ⟨by have z := hi.1; omega, by omega⟩) dL_law_887 ?_
    refine lv_topi (fun yb_1 eyb_1 => ?_)
    refine lv_aload_n hx hb dL_law_888 rfl (lv_at hl 3 rfl) ?_
    refine lv_iload_n hx hb dL_law_889 rfl (lv_at hl 0 rfl) ?_
    refine lv_iconst (v := 2) hx hb dL_law_890 (by decide) ?_
    refine lv_iadd hx hb dL_law_891 ?_
    refine lv_topi (fun xb_2 exb_2 => ?_)
    have ixb_2 : xb_2.toInt = i.toInt + 2 := gI_add exb_2 hi (by decide) (by decide)
    refine va_sld hx hb hX hbl hbA hS (vp_in_iff.mpr ⟨by have z := hi.1; omega, by omega⟩) dL_law_892 ?_
    refine lv_topi (fun yb_2 eyb_2 => ?_)
    refine gz_iF hP hD hS hA (va_runV (As := [.int yb_1, .int yb_2]) (rest := []) ⟨hx, hb, hml, hown, hts⟩ (f_X11_bestWinds_c l G k sa _ am T hT.1 hc yb_1 yb_2) (cwV 2 hts g_L_113_r_bestWinds_c rfl rfl rfl (by decide +kernel) ⟨(Nat.le_of_ble_eq_true rfl), (Nat.le_of_ble_eq_true rfl)⟩) ⟨gP.bl, va_recv hE.K hP (ci := 11) (q0 := 0) rfl rfl, gz_preF hE hZ hS hA hP hD⟩ rfl rfl hl.1 rfl (lv_room (Nat.le_of_ble_eq_true rfl)) dL_law_893 ⟨(Nat.le_of_ble_eq_true rfl), (Nat.le_of_ble_eq_true rfl)⟩) (fun rm um H locs hm hP hD hS => ?_)
    obtain ⟨hTm, hXm⟩ := hm
    refine lv_pop hx hb dL_law_896 rfl ?_
    refine lv_goto (tgt := 1253) hx hb dL_law_897 (by decide) ?_
    exact K ux um H locs hGx hTm (gLk_mv hLk hXx hXm) hP hD hS
