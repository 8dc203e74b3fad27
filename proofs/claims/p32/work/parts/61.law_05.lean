set_option maxHeartbeats 4000000 in
set_option maxRecDepth 100000 in
theorem law_seed {p : Program} {e : Env} {s : State} {m : MethodId} {below : List Frame} {meth : Method} {c : Code} (l : Launch) (G : va_G) (k : Nat → ClassId) (sa : Nat → Nat) {b L : Nat} {xs : Nat → Int32} (C0 : lw_At p s m meth c b L xs) (hE : gE G k sa s) {A : Nat → Prop} (hAe : A = fun q => s.heap.size ≤ q) (hZ : gZ sa A s s.heap) (ad am : Nat → Nat) (S T : gS) (hG : gGI ad S) (hT : gGM T) (hLk : gLk S T) (i : Int32) (hi : gIv 0 3066 i) (hiL : i.toInt + 6 ≤ (L : Int)) {H : Heap} {locs : List Loc} {ls : Array Slot} (hP : va_P G vwCl (ggW k ad S ++ mmW k am T) H) (hD : va_D A (ggW k ad S ++ mmW k am T)) (hS : va_S A s.heap H locs) (hl : lv_has ls 4 [(3, .int i), (2, .ref (am 0)), (1, .ref (ad 100)), (0, .ref b)]) (K : ∀ (S' T' : gS) (H' : Heap) (locs' : List Loc), gGI ad S' → gGM T' → gLk S' T' → va_P G vwCl (ggW k ad S' ++ mmW k am T') H' → va_D A (ggW k ad S' ++ mmW k am T') → va_S A s.heap H' locs' → W p l e room_1 s m #[Value.ref b] below meth c H' locs' 285 12688 (lw_Z below #[Value.ref b] s) (F0 m 1253 ls [])) : W p l e room_1 s m #[Value.ref b] below meth c H locs 285 12688 (lw_Z below #[Value.ref b] s) (F0 m 1108 ls []) := by
  obtain ⟨hx, hb, hr, hml, hown, hts, hX, hbl, hlocks, hgv⟩ := id C0
  have hA : ∀ q : Nat, s.heap.size ≤ q → A q := by rw [hAe]; exact fun _ h => h
  have hbA : ¬ A b := by rw [hAe]; exact Nat.not_le.mpr hbl
  refine lv_aload_n hx hb dL_law_1108 rfl (lv_at hl 2 rfl) ?_
  refine lv_aload_n hx hb dL_law_1109 rfl (lv_at hl 3 rfl) ?_
  refine lv_iload_n hx hb dL_law_1110 rfl (lv_at hl 0 rfl) ?_
  refine lv_iconst (v := 1) hx hb dL_law_1111 (by decide) ?_
  refine lv_iadd hx hb dL_law_1112 ?_
  refine lv_topi (fun xa_1 exa_1 => ?_)
  have ixa_1 : xa_1.toInt = i.toInt + 1 := gI_add exa_1 hi (by decide) (by decide)
  refine va_sld hx hb hX hbl hbA hS (vp_in_iff.mpr ⟨by have z := hi.1; omega, by omega⟩) dL_law_1113 ?_
  refine lv_topi (fun ya_1 eya_1 => ?_)
  rcases gz_sgn ya_1 with hs9 | hs9
  · refine gz_iF hP hD hS hA (va_runV (As := [.int ya_1]) (rest := []) ⟨hx, hb, hml, hown, hts⟩ (f_X10_seed_n l G k sa _ ad S hG ya_1 hs9) (cwV 1 hts g_L_139_s_X10_seed_n rfl rfl rfl (by decide +kernel) ⟨(Nat.le_of_ble_eq_true rfl), (Nat.le_of_ble_eq_true rfl)⟩) ⟨gP.bl, va_recv hE.K hP (ci := 10) (q0 := 0) rfl rfl, gz_preF hE hZ hS hA hP hD⟩ rfl rfl hl.1 rfl (lv_room (Nat.le_of_ble_eq_true rfl)) dL_law_1114 ⟨(Nat.le_of_ble_eq_true rfl), (Nat.le_of_ble_eq_true rfl)⟩) (fun rx ux H locs hx hP hD hS => ?_)
    obtain ⟨hrx, hGx, hXx⟩ := hx
    refine lv_aload_n hx hb dL_law_1117 rfl (lv_at hl 1 rfl) ?_
    refine lv_aload_n hx hb dL_law_1118 rfl (lv_at hl 3 rfl) ?_
    refine lv_iload_n hx hb dL_law_1119 rfl (lv_at hl 0 rfl) ?_
    refine lv_iconst (v := 1) hx hb dL_law_1120 (by decide) ?_
    refine lv_iadd hx hb dL_law_1121 ?_
    refine lv_topi (fun xb_1 exb_1 => ?_)
    have ixb_1 : xb_1.toInt = i.toInt + 1 := gI_add exb_1 hi (by decide) (by decide)
    refine va_sld hx hb hX hbl hbA hS (vp_in_iff.mpr ⟨by have z := hi.1; omega, by omega⟩) dL_law_1122 ?_
    refine lv_topi (fun yb_1 eyb_1 => ?_)
    have hyy : yb_1 = ya_1 := by rw [eyb_1, eya_1, exb_1, exa_1]
    refine gz_iF hP hD hS hA (va_runV (As := [.int yb_1]) (rest := [.int rx]) ⟨hx, hb, hml, hown, hts⟩ (f_X11_seed_n l G k sa _ am T hT.1 hT.2 yb_1 (by rw [hyy]; exact hs9)) (cwV 1 hts g_L_142_r_seed_n rfl rfl rfl (by decide +kernel) ⟨(Nat.le_of_ble_eq_true rfl), (Nat.le_of_ble_eq_true rfl)⟩) ⟨gP.bl, va_recv hE.K hP (ci := 11) (q0 := 0) rfl rfl, gz_preF hE hZ hS hA hP hD⟩ rfl rfl hl.1 rfl (lv_room (Nat.le_of_ble_eq_true rfl)) dL_law_1123 ⟨(Nat.le_of_ble_eq_true rfl), (Nat.le_of_ble_eq_true rfl)⟩) (fun rm um H locs hm hP hD hS => ?_)
    obtain ⟨hrm, hTm, hXm⟩ := hm
    refine lv_icmp_eq (tgt := 1253) hx hb dL_law_1126 (by decide) (fun _ => ?_) (fun h9 => absurd (hrx.trans hrm.symm) h9)
    exact K ux um H locs hGx hTm (gLk_mv hLk hXx hXm) hP hD hS
  · refine gz_iF hP hD hS hA (va_runV (As := [.int ya_1]) (rest := []) ⟨hx, hb, hml, hown, hts⟩ (f_X10_seed_p l G k sa _ ad S hG ya_1 hs9) (cwV 1 hts g_L_139_s_X10_seed_p rfl rfl rfl (by decide +kernel) ⟨(Nat.le_of_ble_eq_true rfl), (Nat.le_of_ble_eq_true rfl)⟩) ⟨gP.bl, va_recv hE.K hP (ci := 10) (q0 := 0) rfl rfl, gz_preF hE hZ hS hA hP hD⟩ rfl rfl hl.1 rfl (lv_room (Nat.le_of_ble_eq_true rfl)) dL_law_1114 ⟨(Nat.le_of_ble_eq_true rfl), (Nat.le_of_ble_eq_true rfl)⟩) (fun rx ux H locs hx hP hD hS => ?_)
    obtain ⟨hrx, hGx, hXx, hOx⟩ := hx
    refine lv_aload_n hx hb dL_law_1117 rfl (lv_at hl 1 rfl) ?_
    refine lv_aload_n hx hb dL_law_1118 rfl (lv_at hl 3 rfl) ?_
    refine lv_iload_n hx hb dL_law_1119 rfl (lv_at hl 0 rfl) ?_
    refine lv_iconst (v := 1) hx hb dL_law_1120 (by decide) ?_
    refine lv_iadd hx hb dL_law_1121 ?_
    refine lv_topi (fun xb_1 exb_1 => ?_)
    have ixb_1 : xb_1.toInt = i.toInt + 1 := gI_add exb_1 hi (by decide) (by decide)
    refine va_sld hx hb hX hbl hbA hS (vp_in_iff.mpr ⟨by have z := hi.1; omega, by omega⟩) dL_law_1122 ?_
    refine lv_topi (fun yb_1 eyb_1 => ?_)
    have hyy : yb_1 = ya_1 := by rw [eyb_1, eya_1, exb_1, exa_1]
    refine gz_iF hP hD hS hA (va_runV (As := [.int yb_1]) (rest := [.int rx]) ⟨hx, hb, hml, hown, hts⟩ (f_X11_seed_p l G k sa _ am T hT.1 hT.2 yb_1 (by rw [hyy]; exact hs9)) (cwV 1 hts g_L_142_r_seed_p rfl rfl rfl (by decide +kernel) ⟨(Nat.le_of_ble_eq_true rfl), (Nat.le_of_ble_eq_true rfl)⟩) ⟨gP.bl, va_recv hE.K hP (ci := 11) (q0 := 0) rfl rfl, gz_preF hE hZ hS hA hP hD⟩ rfl rfl hl.1 rfl (lv_room (Nat.le_of_ble_eq_true rfl)) dL_law_1123 ⟨(Nat.le_of_ble_eq_true rfl), (Nat.le_of_ble_eq_true rfl)⟩) (fun rm um H locs hm hP hD hS => ?_)
    obtain ⟨hrm, hTm, hXm, hm1, hm2⟩ := hm
    refine lv_icmp_eq (tgt := 1253) hx hb dL_law_1126 (by decide) (fun _ => ?_) (fun h9 => absurd (hrx.trans (hLk.1.trans hrm.symm)) h9)
    exact K ux um H locs hGx hTm (gLk_seed hLk hXx hOx (hXm.trans hyy) hm1 hm2) hP hD hS
set_option maxHeartbeats 4000000 in
set_option maxRecDepth 100000 in
theorem law_gusts {p : Program} {e : Env} {s : State} {m : MethodId} {below : List Frame} {meth : Method} {c : Code} (l : Launch) (G : va_G) (k : Nat → ClassId) (sa : Nat → Nat) {b L : Nat} {xs : Nat → Int32} (C0 : lw_At p s m meth c b L xs) (hE : gE G k sa s) {A : Nat → Prop} (hAe : A = fun q => s.heap.size ≤ q) (hZ : gZ sa A s s.heap) (ad am : Nat → Nat) (S T : gS) (hG : gGI ad S) (hT : gGM T) (hLk : gLk S T) (i : Int32) (hi : gIv 0 3066 i) (hiL : i.toInt + 6 ≤ (L : Int)) {H : Heap} {locs : List Loc} {ls : Array Slot} (hP : va_P G vwCl (ggW k ad S ++ mmW k am T) H) (hD : va_D A (ggW k ad S ++ mmW k am T)) (hS : va_S A s.heap H locs) (hl : lv_has ls 4 [(3, .int i), (2, .ref (am 0)), (1, .ref (ad 100)), (0, .ref b)]) (K : ∀ (S' T' : gS) (H' : Heap) (locs' : List Loc), gGI ad S' → gGM T' → gLk S' T' → va_P G vwCl (ggW k ad S' ++ mmW k am T') H' → va_D A (ggW k ad S' ++ mmW k am T') → va_S A s.heap H' locs' → W p l e room_1 s m #[Value.ref b] below meth c H' locs' 285 12688 (lw_Z below #[Value.ref b] s) (F0 m 1253 ls [])) : W p l e room_1 s m #[Value.ref b] below meth c H locs 285 12688 (lw_Z below #[Value.ref b] s) (F0 m 1131 ls []) := by
  obtain ⟨hx, hb, hr, hml, hown, hts, hX, hbl, hlocks, hgv⟩ := id C0
  have hA : ∀ q : Nat, s.heap.size ≤ q → A q := by rw [hAe]; exact fun _ h => h
  have hbA : ¬ A b := by rw [hAe]; exact Nat.not_le.mpr hbl
  refine lv_aload_n hx hb dL_law_1131 rfl (lv_at hl 2 rfl) ?_
  refine lv_aload_n hx hb dL_law_1132 rfl (lv_at hl 3 rfl) ?_
  refine lv_iload_n hx hb dL_law_1133 rfl (lv_at hl 0 rfl) ?_
  refine lv_iconst (v := 1) hx hb dL_law_1134 (by decide) ?_
  refine lv_iadd hx hb dL_law_1135 ?_
  refine lv_topi (fun xa_1 exa_1 => ?_)
  have ixa_1 : xa_1.toInt = i.toInt + 1 := gI_add exa_1 hi (by decide) (by decide)
  refine va_sld hx hb hX hbl hbA hS (vp_in_iff.mpr ⟨by have z := hi.1; omega, by omega⟩) dL_law_1136 ?_
  refine lv_topi (fun ya_1 eya_1 => ?_)
  refine lv_aload_n hx hb dL_law_1137 rfl (lv_at hl 3 rfl) ?_
  refine lv_iload_n hx hb dL_law_1138 rfl (lv_at hl 0 rfl) ?_
  refine lv_iconst (v := 2) hx hb dL_law_1139 (by decide) ?_
  refine lv_iadd hx hb dL_law_1140 ?_
  refine lv_topi (fun xa_2 exa_2 => ?_)
  have ixa_2 : xa_2.toInt = i.toInt + 2 := gI_add exa_2 hi (by decide) (by decide)
  refine va_sld hx hb hX hbl hbA hS (vp_in_iff.mpr ⟨by have z := hi.1; omega, by omega⟩) dL_law_1141 ?_
  refine lv_topi (fun ya_2 eya_2 => ?_)
  refine lv_aload_n hx hb dL_law_1142 rfl (lv_at hl 3 rfl) ?_
  refine lv_iload_n hx hb dL_law_1143 rfl (lv_at hl 0 rfl) ?_
  refine lv_iconst (v := 3) hx hb dL_law_1144 (by decide) ?_
  refine lv_iadd hx hb dL_law_1145 ?_
  refine lv_topi (fun xa_3 exa_3 => ?_)
  have ixa_3 : xa_3.toInt = i.toInt + 3 := gI_add exa_3 hi (by decide) (by decide)
  refine va_sld hx hb hX hbl hbA hS (vp_in_iff.mpr ⟨by have z := hi.1; omega, by omega⟩) dL_law_1146 ?_
  refine lv_topi (fun ya_3 eya_3 => ?_)
  refine lv_aload_n hx hb dL_law_1147 rfl (lv_at hl 3 rfl) ?_
  refine lv_iload_n hx hb dL_law_1148 rfl (lv_at hl 0 rfl) ?_
  refine lv_iconst (v := 4) hx hb dL_law_1149 (by decide) ?_
  refine lv_iadd hx hb dL_law_1150 ?_
  refine lv_topi (fun xa_4 exa_4 => ?_)
  have ixa_4 : xa_4.toInt = i.toInt + 4 := gI_add exa_4 hi (by decide) (by decide)
  refine va_sld hx hb hX hbl hbA hS (vp_in_iff.mpr ⟨by have z := hi.1; omega, by omega⟩) dL_law_1151 ?_
  refine lv_topi (fun ya_4 eya_4 => ?_)
  refine gz_iF hP hD hS hA (va_runV (As := [.int ya_1, .int ya_2, .int ya_3, .int ya_4]) (rest := []) ⟨hx, hb, hml, hown, hts⟩ (f_X10_gusts l G k sa _ ad S hG ya_1 ya_2 ya_3 ya_4) (cwV 4 hts g_L_143_s_X10_gusts rfl rfl rfl (by decide +kernel) ⟨(Nat.le_of_ble_eq_true rfl), (Nat.le_of_ble_eq_true rfl)⟩) ⟨gP.bl, va_recv hE.K hP (ci := 10) (q0 := 0) rfl rfl, gz_preF hE hZ hS hA hP hD⟩ rfl rfl hl.1 rfl (lv_room (Nat.le_of_ble_eq_true rfl)) dL_law_1152 ⟨(Nat.le_of_ble_eq_true rfl), (Nat.le_of_ble_eq_true rfl)⟩) (fun rx ux H locs hx hP hD hS => ?_)
  obtain ⟨hGx, hXx⟩ := hx
  refine lv_pop hx hb dL_law_1155 rfl ?_
  rcases hT.2 with ⟨hz, hun⟩ | hc
  · refine lv_aload_n hx hb dL_law_1156 rfl (lv_at hl 1 rfl) ?_
    refine lv_aload_n hx hb dL_law_1157 rfl (lv_at hl 3 rfl) ?_
    refine lv_iload_n hx hb dL_law_1158 rfl (lv_at hl 0 rfl) ?_
    refine lv_iconst (v := 1) hx hb dL_law_1159 (by decide) ?_
    refine lv_iadd hx hb dL_law_1160 ?_
    refine lv_topi (fun xb_1 exb_1 => ?_)
    have ixb_1 : xb_1.toInt = i.toInt + 1 := gI_add exb_1 hi (by decide) (by decide)
    refine va_sld hx hb hX hbl hbA hS (vp_in_iff.mpr ⟨by have z := hi.1; omega, by omega⟩) dL_law_1161 ?_
    refine lv_topi (fun yb_1 eyb_1 => ?_)
    refine lv_aload_n hx hb dL_law_1162 rfl (lv_at hl 3 rfl) ?_
    refine lv_iload_n hx hb dL_law_1163 rfl (lv_at hl 0 rfl) ?_
    refine lv_iconst (v := 2) hx hb dL_law_1164 (by decide) ?_
    refine lv_iadd hx hb dL_law_1165 ?_
    refine lv_topi (fun xb_2 exb_2 => ?_)
    have ixb_2 : xb_2.toInt = i.toInt + 2 := gI_add exb_2 hi (by decide) (by decide)
    refine va_sld hx hb hX hbl hbA hS (vp_in_iff.mpr ⟨by have z := hi.1; omega, by omega⟩) dL_law_1166 ?_
    refine lv_topi (fun yb_2 eyb_2 => ?_)
    refine lv_aload_n hx hb dL_law_1167 rfl (lv_at hl 3 rfl) ?_
    refine lv_iload_n hx hb dL_law_1168 rfl (lv_at hl 0 rfl) ?_
    refine lv_iconst (v := 3) hx hb dL_law_1169 (by decide) ?_
    refine lv_iadd hx hb dL_law_1170 ?_
    refine lv_topi (fun xb_3 exb_3 => ?_)
    have ixb_3 : xb_3.toInt = i.toInt + 3 := gI_add exb_3 hi (by decide) (by decide)
    refine va_sld hx hb hX hbl hbA hS (vp_in_iff.mpr ⟨by have z := hi.1; omega, by omega⟩) dL_law_1171 ?_
    refine lv_topi (fun yb_3 eyb_3 => ?_)
    refine lv_aload_n hx hb dL_law_1172 rfl (lv_at hl 3 rfl) ?_
    refine lv_iload_n hx hb dL_law_1173 rfl (lv_at hl 0 rfl) ?_
    refine lv_iconst (v := 4) hx hb dL_law_1174 (by decide) ?_
    refine lv_iadd hx hb dL_law_1175 ?_
    refine lv_topi (fun xb_4 exb_4 => ?_)
    have ixb_4 : xb_4.toInt = i.toInt + 4 := gI_add exb_4 hi (by decide) (by decide)
    refine va_sld hx hb hX hbl hbA hS (vp_in_iff.mpr ⟨by have z := hi.1; omega, by omega⟩) dL_law_1176 ?_
    refine lv_topi (fun yb_4 eyb_4 => ?_)
    refine gz_iF hP hD hS hA (va_runV (As := [.int yb_1, .int yb_2, .int yb_3, .int yb_4]) (rest := []) ⟨hx, hb, hml, hown, hts⟩ (f_X11_gusts_z l G k sa _ am T hT.1 hz hun yb_1 yb_2 yb_3 yb_4) (cwV 4 hts g_L_146_r_gusts_z rfl rfl rfl (by decide +kernel) ⟨(Nat.le_of_ble_eq_true rfl), (Nat.le_of_ble_eq_true rfl)⟩) ⟨gP.bl, va_recv hE.K hP (ci := 11) (q0 := 0) rfl rfl, gz_preF hE hZ hS hA hP hD⟩ rfl rfl hl.1 rfl (lv_room (Nat.le_of_ble_eq_true rfl)) dL_law_1177 ⟨(Nat.le_of_ble_eq_true rfl), (Nat.le_of_ble_eq_true rfl)⟩) (fun rm um H locs hm hP hD hS => ?_)
    obtain ⟨hTm, hXm⟩ := hm
    refine lv_pop hx hb dL_law_1180 rfl ?_
    refine lv_goto (tgt := 1253) hx hb dL_law_1181 (by decide) ?_
    exact K ux um H locs hGx hTm (gLk_mv hLk hXx hXm) hP hD hS
  · refine lv_aload_n hx hb dL_law_1156 rfl (lv_at hl 1 rfl) ?_
    refine lv_aload_n hx hb dL_law_1157 rfl (lv_at hl 3 rfl) ?_
    refine lv_iload_n hx hb dL_law_1158 rfl (lv_at hl 0 rfl) ?_
    refine lv_iconst (v := 1) hx hb dL_law_1159 (by decide) ?_
    refine lv_iadd hx hb dL_law_1160 ?_
    refine lv_topi (fun xb_1 exb_1 => ?_)
    have ixb_1 : xb_1.toInt = i.toInt + 1 := gI_add exb_1 hi (by decide) (by decide)
    refine va_sld hx hb hX hbl hbA hS (vp_in_iff.mpr ⟨by have z := hi.1; omega, by omega⟩) dL_law_1161 ?_
    refine lv_topi (fun yb_1 eyb_1 => ?_)
    refine lv_aload_n hx hb dL_law_1162 rfl (lv_at hl 3 rfl) ?_
    refine lv_iload_n hx hb dL_law_1163 rfl (lv_at hl 0 rfl) ?_
    refine lv_iconst (v := 2) hx hb dL_law_1164 (by decide) ?_
    refine lv_iadd hx hb dL_law_1165 ?_
    refine lv_topi (fun xb_2 exb_2 => ?_)
    have ixb_2 : xb_2.toInt = i.toInt + 2 := gI_add exb_2 hi (by decide) (by decide)
    refine va_sld hx hb hX hbl hbA hS (vp_in_iff.mpr ⟨by have z := hi.1; omega, by omega⟩) dL_law_1166 ?_
    refine lv_topi (fun yb_2 eyb_2 => ?_)
    refine lv_aload_n hx hb dL_law_1167 rfl (lv_at hl 3 rfl) ?_
    refine lv_iload_n hx hb dL_law_1168 rfl (lv_at hl 0 rfl) ?_
    refine lv_iconst (v := 3) hx hb dL_law_1169 (by decide) ?_
    refine lv_iadd hx hb dL_law_1170 ?_
    refine lv_topi (fun xb_3 exb_3 => ?_)
    have ixb_3 : xb_3.toInt = i.toInt + 3 := gI_add exb_3 hi (by decide) (by decide)
    refine va_sld hx hb hX hbl hbA hS (vp_in_iff.mpr ⟨by have z := hi.1; omega, by omega⟩) dL_law_1171 ?_
    refine lv_topi (fun yb_3 eyb_3 => ?_)
    refine lv_aload_n hx hb dL_law_1172 rfl (lv_at hl 3 rfl) ?_
    refine lv_iload_n hx hb dL_law_1173 rfl (lv_at hl 0 rfl) ?_
    refine lv_iconst (v := 4) hx hb dL_law_1174 (by decide) ?_
    refine lv_iadd hx hb dL_law_1175 ?_
    refine lv_topi (fun xb_4 exb_4 => ?_)
    have ixb_4 : xb_4.toInt = i.toInt + 4 := gI_add exb_4 hi (by decide) (by decide)
    refine va_sld hx hb hX hbl hbA hS (vp_in_iff.mpr ⟨by have z := hi.1; omega, by omega⟩) dL_law_1176 ?_
    refine lv_topi (fun yb_4 eyb_4 => ?_)
    refine gz_iF hP hD hS hA (va_runV (As := [.int yb_1, .int yb_2, .int yb_3, .int yb_4]) (rest := []) ⟨hx, hb, hml, hown, hts⟩ (f_X11_gusts_c l G k sa _ am T hT.1 hc yb_1 yb_2 yb_3 yb_4) (cwV 4 hts g_L_146_r_gusts_c rfl rfl rfl (by decide +kernel) ⟨(Nat.le_of_ble_eq_true rfl), (Nat.le_of_ble_eq_true rfl)⟩) ⟨gP.bl, va_recv hE.K hP (ci := 11) (q0 := 0) rfl rfl, gz_preF hE hZ hS hA hP hD⟩ rfl rfl hl.1 rfl (lv_room (Nat.le_of_ble_eq_true rfl)) dL_law_1177 ⟨(Nat.le_of_ble_eq_true rfl), (Nat.le_of_ble_eq_true rfl)⟩) (fun rm um H locs hm hP hD hS => ?_)
    obtain ⟨hTm, hXm⟩ := hm
    refine lv_pop hx hb dL_law_1180 rfl ?_
    refine lv_goto (tgt := 1253) hx hb dL_law_1181 (by decide) ?_
    exact K ux um H locs hGx hTm (gLk_mv hLk hXx hXm) hP hD hS
set_option maxHeartbeats 4000000 in
set_option maxRecDepth 100000 in
theorem law_count {p : Program} {e : Env} {s : State} {m : MethodId} {below : List Frame} {meth : Method} {c : Code} (l : Launch) (G : va_G) (k : Nat → ClassId) (sa : Nat → Nat) {b L : Nat} {xs : Nat → Int32} (C0 : lw_At p s m meth c b L xs) (hE : gE G k sa s) {A : Nat → Prop} (hAe : A = fun q => s.heap.size ≤ q) (hZ : gZ sa A s s.heap) (ad am : Nat → Nat) (S T : gS) (hG : gGI ad S) (hT : gGM T) (hLk : gLk S T) (i : Int32) (hi : gIv 0 3066 i) (hiL : i.toInt + 6 ≤ (L : Int)) {H : Heap} {locs : List Loc} {ls : Array Slot} (hP : va_P G vwCl (ggW k ad S ++ mmW k am T) H) (hD : va_D A (ggW k ad S ++ mmW k am T)) (hS : va_S A s.heap H locs) (hl : lv_has ls 4 [(3, .int i), (2, .ref (am 0)), (1, .ref (ad 100)), (0, .ref b)]) (K : ∀ (S' T' : gS) (H' : Heap) (locs' : List Loc), gGI ad S' → gGM T' → gLk S' T' → va_P G vwCl (ggW k ad S' ++ mmW k am T') H' → va_D A (ggW k ad S' ++ mmW k am T') → va_S A s.heap H' locs' → W p l e room_1 s m #[Value.ref b] below meth c H' locs' 285 12688 (lw_Z below #[Value.ref b] s) (F0 m 1253 ls [])) : W p l e room_1 s m #[Value.ref b] below meth c H locs 285 12688 (lw_Z below #[Value.ref b] s) (F0 m 1184 ls []) := by
  obtain ⟨hx, hb, hr, hml, hown, hts, hX, hbl, hlocks, hgv⟩ := id C0
  have hA : ∀ q : Nat, s.heap.size ≤ q → A q := by rw [hAe]; exact fun _ h => h
  have hbA : ¬ A b := by rw [hAe]; exact Nat.not_le.mpr hbl
  refine lv_aload_n hx hb dL_law_1184 rfl (lv_at hl 2 rfl) ?_
  refine lv_aload_n hx hb dL_law_1185 rfl (lv_at hl 3 rfl) ?_
  refine lv_iload_n hx hb dL_law_1186 rfl (lv_at hl 0 rfl) ?_
  refine lv_iconst (v := 1) hx hb dL_law_1187 (by decide) ?_
  refine lv_iadd hx hb dL_law_1188 ?_
  refine lv_topi (fun xa_1 exa_1 => ?_)
  have ixa_1 : xa_1.toInt = i.toInt + 1 := gI_add exa_1 hi (by decide) (by decide)
  refine va_sld hx hb hX hbl hbA hS (vp_in_iff.mpr ⟨by have z := hi.1; omega, by omega⟩) dL_law_1189 ?_
  refine lv_topi (fun ya_1 eya_1 => ?_)
  refine gz_iF hP hD hS hA (va_runV (As := [.int ya_1]) (rest := []) ⟨hx, hb, hml, hown, hts⟩ (f_X10_count l G k sa _ ad S hG ya_1) (cwV 1 hts g_L_147_s_X10_count rfl rfl rfl (by decide +kernel) ⟨(Nat.le_of_ble_eq_true rfl), (Nat.le_of_ble_eq_true rfl)⟩) ⟨gP.bl, va_recv hE.K hP (ci := 10) (q0 := 0) rfl rfl, gz_preF hE hZ hS hA hP hD⟩ rfl rfl hl.1 rfl (lv_room (Nat.le_of_ble_eq_true rfl)) dL_law_1190 ⟨(Nat.le_of_ble_eq_true rfl), (Nat.le_of_ble_eq_true rfl)⟩) (fun rx ux H locs hx hP hD hS => ?_)
  obtain ⟨hGx, hXx⟩ := hx
  refine lv_pop hx hb dL_law_1193 rfl ?_
  rcases hT.2 with ⟨hz, hun⟩ | hc
  · refine lv_aload_n hx hb dL_law_1194 rfl (lv_at hl 1 rfl) ?_
    refine lv_aload_n hx hb dL_law_1195 rfl (lv_at hl 3 rfl) ?_
    refine lv_iload_n hx hb dL_law_1196 rfl (lv_at hl 0 rfl) ?_
    refine lv_iconst (v := 1) hx hb dL_law_1197 (by decide) ?_
    refine lv_iadd hx hb dL_law_1198 ?_
    refine lv_topi (fun xb_1 exb_1 => ?_)
    have ixb_1 : xb_1.toInt = i.toInt + 1 := gI_add exb_1 hi (by decide) (by decide)
    refine va_sld hx hb hX hbl hbA hS (vp_in_iff.mpr ⟨by have z := hi.1; omega, by omega⟩) dL_law_1199 ?_
    refine lv_topi (fun yb_1 eyb_1 => ?_)
    refine gz_iF hP hD hS hA (va_runV (As := [.int yb_1]) (rest := []) ⟨hx, hb, hml, hown, hts⟩ (f_X11_count_z l G k sa _ am T hT.1 hz hun yb_1) (cwV 1 hts g_L_150_r_count_z rfl rfl rfl (by decide +kernel) ⟨(Nat.le_of_ble_eq_true rfl), (Nat.le_of_ble_eq_true rfl)⟩) ⟨gP.bl, va_recv hE.K hP (ci := 11) (q0 := 0) rfl rfl, gz_preF hE hZ hS hA hP hD⟩ rfl rfl hl.1 rfl (lv_room (Nat.le_of_ble_eq_true rfl)) dL_law_1200 ⟨(Nat.le_of_ble_eq_true rfl), (Nat.le_of_ble_eq_true rfl)⟩) (fun rm um H locs hm hP hD hS => ?_)
    obtain ⟨hTm, hXm⟩ := hm
    refine lv_pop hx hb dL_law_1203 rfl ?_
    refine lv_goto (tgt := 1253) hx hb dL_law_1204 (by decide) ?_
    exact K ux um H locs hGx hTm (gLk_mv hLk hXx hXm) hP hD hS
  · refine lv_aload_n hx hb dL_law_1194 rfl (lv_at hl 1 rfl) ?_
    refine lv_aload_n hx hb dL_law_1195 rfl (lv_at hl 3 rfl) ?_
    refine lv_iload_n hx hb dL_law_1196 rfl (lv_at hl 0 rfl) ?_
    refine lv_iconst (v := 1) hx hb dL_law_1197 (by decide) ?_
    refine lv_iadd hx hb dL_law_1198 ?_
    refine lv_topi (fun xb_1 exb_1 => ?_)
    have ixb_1 : xb_1.toInt = i.toInt + 1 := gI_add exb_1 hi (by decide) (by decide)
    refine va_sld hx hb hX hbl hbA hS (vp_in_iff.mpr ⟨by have z := hi.1; omega, by omega⟩) dL_law_1199 ?_
    refine lv_topi (fun yb_1 eyb_1 => ?_)
    refine gz_iF hP hD hS hA (va_runV (As := [.int yb_1]) (rest := []) ⟨hx, hb, hml, hown, hts⟩ (f_X11_count_c l G k sa _ am T hT.1 hc yb_1) (cwV 1 hts g_L_150_r_count_c rfl rfl rfl (by decide +kernel) ⟨(Nat.le_of_ble_eq_true rfl), (Nat.le_of_ble_eq_true rfl)⟩) ⟨gP.bl, va_recv hE.K hP (ci := 11) (q0 := 0) rfl rfl, gz_preF hE hZ hS hA hP hD⟩ rfl rfl hl.1 rfl (lv_room (Nat.le_of_ble_eq_true rfl)) dL_law_1200 ⟨(Nat.le_of_ble_eq_true rfl), (Nat.le_of_ble_eq_true rfl)⟩) (fun rm um H locs hm hP hD hS => ?_)
    obtain ⟨hTm, hXm⟩ := hm
    refine lv_pop hx hb dL_law_1203 rfl ?_
    refine lv_goto (tgt := 1253) hx hb dL_law_1204 (by decide) ?_
    exact K ux um H locs hGx hTm (gLk_mv hLk hXx hXm) hP hD hS
set_option maxHeartbeats 4000000 in
set_option maxRecDepth 100000 in
theorem law_image {p : Program} {e : Env} {s : State} {m : MethodId} {below : List Frame} {meth : Method} {c : Code} (l : Launch) (G : va_G) (k : Nat → ClassId) (sa : Nat → Nat) {b L : Nat} {xs : Nat → Int32} (C0 : lw_At p s m meth c b L xs) (hE : gE G k sa s) {A : Nat → Prop} (hAe : A = fun q => s.heap.size ≤ q) (hZ : gZ sa A s s.heap) (ad am : Nat → Nat) (S T : gS) (hG : gGI ad S) (hT : gGM T) (hLk : gLk S T) (i : Int32) (hi : gIv 0 3066 i) (hiL : i.toInt + 6 ≤ (L : Int)) {H : Heap} {locs : List Loc} {ls : Array Slot} (hP : va_P G vwCl (ggW k ad S ++ mmW k am T) H) (hD : va_D A (ggW k ad S ++ mmW k am T)) (hS : va_S A s.heap H locs) (hl : lv_has ls 4 [(3, .int i), (2, .ref (am 0)), (1, .ref (ad 100)), (0, .ref b)]) (K : ∀ (S' T' : gS) (H' : Heap) (locs' : List Loc), gGI ad S' → gGM T' → gLk S' T' → va_P G vwCl (ggW k ad S' ++ mmW k am T') H' → va_D A (ggW k ad S' ++ mmW k am T') → va_S A s.heap H' locs' → W p l e room_1 s m #[Value.ref b] below meth c H' locs' 285 12688 (lw_Z below #[Value.ref b] s) (F0 m 1253 ls [])) : W p l e room_1 s m #[Value.ref b] below meth c H locs 285 12688 (lw_Z below #[Value.ref b] s) (F0 m 1207 ls []) := by
  obtain ⟨hx, hb, hr, hml, hown, hts, hX, hbl, hlocks, hgv⟩ := id C0
  have hA : ∀ q : Nat, s.heap.size ≤ q → A q := by rw [hAe]; exact fun _ h => h
  have hbA : ¬ A b := by rw [hAe]; exact Nat.not_le.mpr hbl
  refine lv_aload_n hx hb dL_law_1207 rfl (lv_at hl 2 rfl) ?_
  refine lv_aload_n hx hb dL_law_1208 rfl (lv_at hl 3 rfl) ?_
  refine lv_iload_n hx hb dL_law_1209 rfl (lv_at hl 0 rfl) ?_
  refine lv_iconst (v := 1) hx hb dL_law_1210 (by decide) ?_
  refine lv_iadd hx hb dL_law_1211 ?_
  refine lv_topi (fun xa_1 exa_1 => ?_)
  have ixa_1 : xa_1.toInt = i.toInt + 1 := gI_add exa_1 hi (by decide) (by decide)
  refine va_sld hx hb hX hbl hbA hS (vp_in_iff.mpr ⟨by have z := hi.1; omega, by omega⟩) dL_law_1212 ?_
  refine lv_topi (fun ya_1 eya_1 => ?_)
  rcases gz_k4 ya_1 with hs9 | hs9 | hs9 | hs9 | hs9 | hs9
  · refine gz_iF hP hD hS hA (va_runV (As := [.int ya_1]) (rest := []) ⟨hx, hb, hml, hown, hts⟩ (f_X10_image_lo l G k sa _ ad S hG ya_1 hs9) (cwV 1 hts g_L_151_s_X10_image_lo rfl rfl rfl (by decide +kernel) ⟨(Nat.le_of_ble_eq_true rfl), (Nat.le_of_ble_eq_true rfl)⟩) ⟨gP.bl, va_recv hE.K hP (ci := 10) (q0 := 0) rfl rfl, gz_preF hE hZ hS hA hP hD⟩ rfl rfl hl.1 rfl (lv_room (Nat.le_of_ble_eq_true rfl)) dL_law_1213 ⟨(Nat.le_of_ble_eq_true rfl), (Nat.le_of_ble_eq_true rfl)⟩) (fun rx ux H locs hx hP hD hS => ?_)
    obtain ⟨hGx, hXx⟩ := hx
    refine lv_pop hx hb dL_law_1216 rfl ?_
    refine lv_aload_n hx hb dL_law_1217 rfl (lv_at hl 1 rfl) ?_
    refine lv_aload_n hx hb dL_law_1218 rfl (lv_at hl 3 rfl) ?_
    refine lv_iload_n hx hb dL_law_1219 rfl (lv_at hl 0 rfl) ?_
    refine lv_iconst (v := 1) hx hb dL_law_1220 (by decide) ?_
    refine lv_iadd hx hb dL_law_1221 ?_
    refine lv_topi (fun xb_1 exb_1 => ?_)
    have ixb_1 : xb_1.toInt = i.toInt + 1 := gI_add exb_1 hi (by decide) (by decide)
    refine va_sld hx hb hX hbl hbA hS (vp_in_iff.mpr ⟨by have z := hi.1; omega, by omega⟩) dL_law_1222 ?_
    refine lv_topi (fun yb_1 eyb_1 => ?_)
    have hyy : yb_1 = ya_1 := by rw [eyb_1, eya_1, exb_1, exa_1]
    refine gz_iF hP hD hS hA (va_runV (As := [.int yb_1]) (rest := []) ⟨hx, hb, hml, hown, hts⟩ (f_X11_image_lo l G k sa _ am T hT.1 hT.2 yb_1 (by rw [hyy]; exact hs9)) (cwV 1 hts g_L_154_r_image_lo rfl rfl rfl (by decide +kernel) ⟨(Nat.le_of_ble_eq_true rfl), (Nat.le_of_ble_eq_true rfl)⟩) ⟨gP.bl, va_recv hE.K hP (ci := 11) (q0 := 0) rfl rfl, gz_preF hE hZ hS hA hP hD⟩ rfl rfl hl.1 rfl (lv_room (Nat.le_of_ble_eq_true rfl)) dL_law_1223 ⟨(Nat.le_of_ble_eq_true rfl), (Nat.le_of_ble_eq_true rfl)⟩) (fun rm um H locs hm hP hD hS => ?_)
    obtain ⟨hTm, hXm⟩ := hm
    refine lv_pop hx hb dL_law_1226 rfl ?_
    refine lv_goto (tgt := 1253) hx hb dL_law_1227 (by decide) ?_
    exact K ux um H locs hGx hTm (gLk_mv hLk hXx hXm) hP hD hS
  · refine gz_iF hP hD hS hA (va_runV (As := [.int ya_1]) (rest := []) ⟨hx, hb, hml, hown, hts⟩ (f_X10_image_hi l G k sa _ ad S hG ya_1 hs9) (cwV 1 hts g_L_151_s_X10_image_hi rfl rfl rfl (by decide +kernel) ⟨(Nat.le_of_ble_eq_true rfl), (Nat.le_of_ble_eq_true rfl)⟩) ⟨gP.bl, va_recv hE.K hP (ci := 10) (q0 := 0) rfl rfl, gz_preF hE hZ hS hA hP hD⟩ rfl rfl hl.1 rfl (lv_room (Nat.le_of_ble_eq_true rfl)) dL_law_1213 ⟨(Nat.le_of_ble_eq_true rfl), (Nat.le_of_ble_eq_true rfl)⟩) (fun rx ux H locs hx hP hD hS => ?_)
    obtain ⟨hGx, hXx⟩ := hx
    refine lv_pop hx hb dL_law_1216 rfl ?_
    refine lv_aload_n hx hb dL_law_1217 rfl (lv_at hl 1 rfl) ?_
    refine lv_aload_n hx hb dL_law_1218 rfl (lv_at hl 3 rfl) ?_
    refine lv_iload_n hx hb dL_law_1219 rfl (lv_at hl 0 rfl) ?_
    refine lv_iconst (v := 1) hx hb dL_law_1220 (by decide) ?_
    refine lv_iadd hx hb dL_law_1221 ?_
    refine lv_topi (fun xb_1 exb_1 => ?_)
    have ixb_1 : xb_1.toInt = i.toInt + 1 := gI_add exb_1 hi (by decide) (by decide)
    refine va_sld hx hb hX hbl hbA hS (vp_in_iff.mpr ⟨by have z := hi.1; omega, by omega⟩) dL_law_1222 ?_
    refine lv_topi (fun yb_1 eyb_1 => ?_)
    have hyy : yb_1 = ya_1 := by rw [eyb_1, eya_1, exb_1, exa_1]
    refine gz_iF hP hD hS hA (va_runV (As := [.int yb_1]) (rest := []) ⟨hx, hb, hml, hown, hts⟩ (f_X11_image_hi l G k sa _ am T hT.1 hT.2 yb_1 (by rw [hyy]; exact hs9)) (cwV 1 hts g_L_154_r_image_hi rfl rfl rfl (by decide +kernel) ⟨(Nat.le_of_ble_eq_true rfl), (Nat.le_of_ble_eq_true rfl)⟩) ⟨gP.bl, va_recv hE.K hP (ci := 11) (q0 := 0) rfl rfl, gz_preF hE hZ hS hA hP hD⟩ rfl rfl hl.1 rfl (lv_room (Nat.le_of_ble_eq_true rfl)) dL_law_1223 ⟨(Nat.le_of_ble_eq_true rfl), (Nat.le_of_ble_eq_true rfl)⟩) (fun rm um H locs hm hP hD hS => ?_)
    obtain ⟨hTm, hXm⟩ := hm
    refine lv_pop hx hb dL_law_1226 rfl ?_
    refine lv_goto (tgt := 1253) hx hb dL_law_1227 (by decide) ?_
    exact K ux um H locs hGx hTm (gLk_mv hLk hXx hXm) hP hD hS
  · refine gz_ni hs9 ?_
    refine gz_iF hP hD hS hA (va_runV (As := [.int 0]) (rest := []) ⟨hx, hb, hml, hown, hts⟩ (f_X10_image_0 l G k sa _ ad S hG) (cwV 1 hts g_L_151_s_X10_image_0 rfl rfl rfl (by decide +kernel) ⟨(Nat.le_of_ble_eq_true rfl), (Nat.le_of_ble_eq_true rfl)⟩) ⟨gP.bl, va_recv hE.K hP (ci := 10) (q0 := 0) rfl rfl, gz_preF hE hZ hS hA hP hD⟩ rfl rfl hl.1 rfl (lv_room (Nat.le_of_ble_eq_true rfl)) dL_law_1213 ⟨(Nat.le_of_ble_eq_true rfl), (Nat.le_of_ble_eq_true rfl)⟩) (fun rx ux H locs hx hP hD hS => ?_)
    obtain ⟨hGx, hXx, hMx, hOx⟩ := hx
    refine lv_pop hx hb dL_law_1216 rfl ?_
    rcases hT.2 with ⟨hz, hun⟩ | hc
    · refine lv_aload_n hx hb dL_law_1217 rfl (lv_at hl 1 rfl) ?_
      refine lv_aload_n hx hb dL_law_1218 rfl (lv_at hl 3 rfl) ?_
      refine lv_iload_n hx hb dL_law_1219 rfl (lv_at hl 0 rfl) ?_
      refine lv_iconst (v := 1) hx hb dL_law_1220 (by decide) ?_
      refine lv_iadd hx hb dL_law_1221 ?_
      refine lv_topi (fun xb_1 exb_1 => ?_)
      have ixb_1 : xb_1.toInt = i.toInt + 1 := gI_add exb_1 hi (by decide) (by decide)
      refine va_sld hx hb hX hbl hbA hS (vp_in_iff.mpr ⟨by have z := hi.1; omega, by omega⟩) dL_law_1222 ?_
      refine lv_topi (fun yb_1 eyb_1 => ?_)
      have hyy : yb_1 = ya_1 := by rw [eyb_1, eya_1, exb_1, exa_1]
      refine gz_ni (hyy.trans hs9) ?_
      refine gz_iF hP hD hS hA (va_runV (As := [.int 0]) (rest := []) ⟨hx, hb, hml, hown, hts⟩ (f_X11_image_0z l G k sa _ am T hT.1 hz hun) (cwV 1 hts g_L_154_r_image_0z rfl rfl rfl (by decide +kernel) ⟨(Nat.le_of_ble_eq_true rfl), (Nat.le_of_ble_eq_true rfl)⟩) ⟨gP.bl, va_recv hE.K hP (ci := 11) (q0 := 0) rfl rfl, gz_preF hE hZ hS hA hP hD⟩ rfl rfl hl.1 rfl (lv_room (Nat.le_of_ble_eq_true rfl)) dL_law_1223 ⟨(Nat.le_of_ble_eq_true rfl), (Nat.le_of_ble_eq_true rfl)⟩) (fun rm um H locs hm hP hD hS => ?_)
      obtain ⟨hTm, hXm, hm1, hm2⟩ := hm
      refine lv_pop hx hb dL_law_1226 rfl ?_
      refine lv_goto (tgt := 1253) hx hb dL_law_1227 (by decide) ?_
      exact K ux um H locs hGx hTm (gLk_img0 hLk hXx hMx hOx hXm hm1 hm2) hP hD hS
    · refine lv_aload_n hx hb dL_law_1217 rfl (lv_at hl 1 rfl) ?_
      refine lv_aload_n hx hb dL_law_1218 rfl (lv_at hl 3 rfl) ?_
      refine lv_iload_n hx hb dL_law_1219 rfl (lv_at hl 0 rfl) ?_
      refine lv_iconst (v := 1) hx hb dL_law_1220 (by decide) ?_
      refine lv_iadd hx hb dL_law_1221 ?_
      refine lv_topi (fun xb_1 exb_1 => ?_)
      have ixb_1 : xb_1.toInt = i.toInt + 1 := gI_add exb_1 hi (by decide) (by decide)
      refine va_sld hx hb hX hbl hbA hS (vp_in_iff.mpr ⟨by have z := hi.1; omega, by omega⟩) dL_law_1222 ?_
      refine lv_topi (fun yb_1 eyb_1 => ?_)
      have hyy : yb_1 = ya_1 := by rw [eyb_1, eya_1, exb_1, exa_1]
      refine gz_ni (hyy.trans hs9) ?_
      refine gz_iF hP hD hS hA (va_runV (As := [.int 0]) (rest := []) ⟨hx, hb, hml, hown, hts⟩ (f_X11_image_0c l G k sa _ am T hT.1 hc) (cwV 1 hts g_L_154_r_image_0c rfl rfl rfl (by decide +kernel) ⟨(Nat.le_of_ble_eq_true rfl), (Nat.le_of_ble_eq_true rfl)⟩) ⟨gP.bl, va_recv hE.K hP (ci := 11) (q0 := 0) rfl rfl, gz_preF hE hZ hS hA hP hD⟩ rfl rfl hl.1 rfl (lv_room (Nat.le_of_ble_eq_true rfl)) dL_law_1223 ⟨(Nat.le_of_ble_eq_true rfl), (Nat.le_of_ble_eq_true rfl)⟩) (fun rm um H locs hm hP hD hS => ?_)
      obtain ⟨hTm, hXm, hm1, hm2⟩ := hm
      refine lv_pop hx hb dL_law_1226 rfl ?_
      refine lv_goto (tgt := 1253) hx hb dL_law_1227 (by decide) ?_
      exact K ux um H locs hGx hTm (gLk_img0 hLk hXx hMx hOx hXm hm1 hm2) hP hD hS
  · refine gz_ni hs9 ?_
    refine gz_iF hP hD hS hA (va_runV (As := [.int 1]) (rest := []) ⟨hx, hb, hml, hown, hts⟩ (f_X10_image_1 l G k sa _ ad S hG) (cwV 1 hts g_L_151_s_X10_image_1 rfl rfl rfl (by decide +kernel) ⟨(Nat.le_of_ble_eq_true rfl), (Nat.le_of_ble_eq_true rfl)⟩) ⟨gP.bl, va_recv hE.K hP (ci := 10) (q0 := 0) rfl rfl, gz_preF hE hZ hS hA hP hD⟩ rfl rfl hl.1 rfl (lv_room (Nat.le_of_ble_eq_true rfl)) dL_law_1213 ⟨(Nat.le_of_ble_eq_true rfl), (Nat.le_of_ble_eq_true rfl)⟩) (fun rx ux H locs hx hP hD hS => ?_)
    obtain ⟨hGx, hXx, hMx, hOx⟩ := hx
    refine lv_pop hx hb dL_law_1216 rfl ?_
    rcases hT.2 with ⟨hz, hun⟩ | hc
    · refine lv_aload_n hx hb dL_law_1217 rfl (lv_at hl 1 rfl) ?_
      refine lv_aload_n hx hb dL_law_1218 rfl (lv_at hl 3 rfl) ?_
      refine lv_iload_n hx hb dL_law_1219 rfl (lv_at hl 0 rfl) ?_
      refine lv_iconst (v := 1) hx hb dL_law_1220 (by decide) ?_
      refine lv_iadd hx hb dL_law_1221 ?_
      refine lv_topi (fun xb_1 exb_1 => ?_)
      have ixb_1 : xb_1.toInt = i.toInt + 1 := gI_add exb_1 hi (by decide) (by decide)
      refine va_sld hx hb hX hbl hbA hS (vp_in_iff.mpr ⟨by have z := hi.1; omega, by omega⟩) dL_law_1222 ?_
      refine lv_topi (fun yb_1 eyb_1 => ?_)
      have hyy : yb_1 = ya_1 := by rw [eyb_1, eya_1, exb_1, exa_1]
      refine gz_ni (hyy.trans hs9) ?_
      refine gz_iF hP hD hS hA (va_runV (As := [.int 1]) (rest := []) ⟨hx, hb, hml, hown, hts⟩ (f_X11_image_1z l G k sa _ am T hT.1 hz hun) (cwV 1 hts g_L_154_r_image_1z rfl rfl rfl (by decide +kernel) ⟨(Nat.le_of_ble_eq_true rfl), (Nat.le_of_ble_eq_true rfl)⟩) ⟨gP.bl, va_recv hE.K hP (ci := 11) (q0 := 0) rfl rfl, gz_preF hE hZ hS hA hP hD⟩ rfl rfl hl.1 rfl (lv_room (Nat.le_of_ble_eq_true rfl)) dL_law_1223 ⟨(Nat.le_of_ble_eq_true rfl), (Nat.le_of_ble_eq_true rfl)⟩) (fun rm um H locs hm hP hD hS => ?_)
      obtain ⟨hTm, hXm, hm1, hm2⟩ := hm
      refine lv_pop hx hb dL_law_1226 rfl ?_
      refine lv_goto (tgt := 1253) hx hb dL_law_1227 (by decide) ?_
      exact K ux um H locs hGx hTm (gLk_img1 hLk hXx hMx hOx hXm hm1 hm2) hP hD hS
    · refine lv_aload_n hx hb dL_law_1217 rfl (lv_at hl 1 rfl) ?_
      refine lv_aload_n hx hb dL_law_1218 rfl (lv_at hl 3 rfl) ?_
      refine lv_iload_n hx hb dL_law_1219 rfl (lv_at hl 0 rfl) ?_
      refine lv_iconst (v := 1) hx hb dL_law_1220 (by decide) ?_
      refine lv_iadd hx hb dL_law_1221 ?_
      refine lv_topi (fun xb_1 exb_1 => ?_)
      have ixb_1 : xb_1.toInt = i.toInt + 1 := gI_add exb_1 hi (by decide) (by decide)
      refine va_sld hx hb hX hbl hbA hS (vp_in_iff.mpr ⟨by have z := hi.1; omega, by omega⟩) dL_law_1222 ?_
      refine lv_topi (fun yb_1 eyb_1 => ?_)
      have hyy : yb_1 = ya_1 := by rw [eyb_1, eya_1, exb_1, exa_1]
      refine gz_ni (hyy.trans hs9) ?_
      refine gz_iF hP hD hS hA (va_runV (As := [.int 1]) (rest := []) ⟨hx, hb, hml, hown, hts⟩ (f_X11_image_1c l G k sa _ am T hT.1 hc) (cwV 1 hts g_L_154_r_image_1c rfl rfl rfl (by decide +kernel) ⟨(Nat.le_of_ble_eq_true rfl), (Nat.le_of_ble_eq_true rfl)⟩) ⟨gP.bl, va_recv hE.K hP (ci := 11) (q0 := 0) rfl rfl, gz_preF hE hZ hS hA hP hD⟩ rfl rfl hl.1 rfl (lv_room (Nat.le_of_ble_eq_true rfl)) dL_law_1223 ⟨(Nat.le_of_ble_eq_true rfl), (Nat.le_of_ble_eq_true rfl)⟩) (fun rm um H locs hm hP hD hS => ?_)
      obtain ⟨hTm, hXm, hm1, hm2⟩ := hm
      refine lv_pop hx hb dL_law_1226 rfl ?_
      refine lv_goto (tgt := 1253) hx hb dL_law_1227 (by decide) ?_
      exact K ux um H locs hGx hTm (gLk_img1 hLk hXx hMx hOx hXm hm1 hm2) hP hD hS
  · refine gz_ni hs9 ?_
    refine gz_iF hP hD hS hA (va_runV (As := [.int 2]) (rest := []) ⟨hx, hb, hml, hown, hts⟩ (f_X10_image_2 l G k sa _ ad S hG) (cwV 1 hts g_L_151_s_X10_image_2 rfl rfl rfl (by decide +kernel) ⟨(Nat.le_of_ble_eq_true rfl), (Nat.le_of_ble_eq_true rfl)⟩) ⟨gP.bl, va_recv hE.K hP (ci := 10) (q0 := 0) rfl rfl, gz_preF hE hZ hS hA hP hD⟩ rfl rfl hl.1 rfl (lv_room (Nat.le_of_ble_eq_true rfl)) dL_law_1213 ⟨(Nat.le_of_ble_eq_true rfl), (Nat.le_of_ble_eq_true rfl)⟩) (fun rx ux H locs hx hP hD hS => ?_)
    obtain ⟨hGx, hXx, hMx, hOx⟩ := hx
    refine lv_pop hx hb dL_law_1216 rfl ?_
    rcases hT.2 with ⟨hz, hun⟩ | hc
    · refine lv_aload_n hx hb dL_law_1217 rfl (lv_at hl 1 rfl) ?_
      refine lv_aload_n hx hb dL_law_1218 rfl (lv_at hl 3 rfl) ?_
      refine lv_iload_n hx hb dL_law_1219 rfl (lv_at hl 0 rfl) ?_
      refine lv_iconst (v := 1) hx hb dL_law_1220 (by decide) ?_
      refine lv_iadd hx hb dL_law_1221 ?_
      refine lv_topi (fun xb_1 exb_1 => ?_)
      have ixb_1 : xb_1.toInt = i.toInt + 1 := gI_add exb_1 hi (by decide) (by decide)
      refine va_sld hx hb hX hbl hbA hS (vp_in_iff.mpr ⟨by have z := hi.1; omega, by omega⟩) dL_law_1222 ?_
      refine lv_topi (fun yb_1 eyb_1 => ?_)
      have hyy : yb_1 = ya_1 := by rw [eyb_1, eya_1, exb_1, exa_1]
      refine gz_ni (hyy.trans hs9) ?_
      refine gz_iF hP hD hS hA (va_runV (As := [.int 2]) (rest := []) ⟨hx, hb, hml, hown, hts⟩ (f_X11_image_2z l G k sa _ am T hT.1 hz hun) (cwV 1 hts g_L_154_r_image_2z rfl rfl rfl (by decide +kernel) ⟨(Nat.le_of_ble_eq_true rfl), (Nat.le_of_ble_eq_true rfl)⟩) ⟨gP.bl, va_recv hE.K hP (ci := 11) (q0 := 0) rfl rfl, gz_preF hE hZ hS hA hP hD⟩ rfl rfl hl.1 rfl (lv_room (Nat.le_of_ble_eq_true rfl)) dL_law_1223 ⟨(Nat.le_of_ble_eq_true rfl), (Nat.le_of_ble_eq_true rfl)⟩) (fun rm um H locs hm hP hD hS => ?_)
      obtain ⟨hTm, hXm, hm1, hm2⟩ := hm
      refine lv_pop hx hb dL_law_1226 rfl ?_
      refine lv_goto (tgt := 1253) hx hb dL_law_1227 (by decide) ?_
      exact K ux um H locs hGx hTm (gLk_img2 hLk hXx hMx hOx hXm hm1 hm2) hP hD hS
    · refine lv_aload_n hx hb dL_law_1217 rfl (lv_at hl 1 rfl) ?_
      refine lv_aload_n hx hb dL_law_1218 rfl (lv_at hl 3 rfl) ?_
      refine lv_iload_n hx hb dL_law_1219 rfl (lv_at hl 0 rfl) ?_
      refine lv_iconst (v := 1) hx hb dL_law_1220 (by decide) ?_
      refine lv_iadd hx hb dL_law_1221 ?_
      refine lv_topi (fun xb_1 exb_1 => ?_)
      have ixb_1 : xb_1.toInt = i.toInt + 1 := gI_add exb_1 hi (by decide) (by decide)
      refine va_sld hx hb hX hbl hbA hS (vp_in_iff.mpr ⟨by have z := hi.1; omega, by omega⟩) dL_law_1222 ?_
      refine lv_topi (fun yb_1 eyb_1 => ?_)
      have hyy : yb_1 = ya_1 := by rw [eyb_1, eya_1, exb_1, exa_1]
      refine gz_ni (hyy.trans hs9) ?_
      refine gz_iF hP hD hS hA (va_runV (As := [.int 2]) (rest := []) ⟨hx, hb, hml, hown, hts⟩ (f_X11_image_2c l G k sa _ am T hT.1 hc) (cwV 1 hts g_L_154_r_image_2c rfl rfl rfl (by decide +kernel) ⟨(Nat.le_of_ble_eq_true rfl), (Nat.le_of_ble_eq_true rfl)⟩) ⟨gP.bl, va_recv hE.K hP (ci := 11) (q0 := 0) rfl rfl, gz_preF hE hZ hS hA hP hD⟩ rfl rfl hl.1 rfl (lv_room (Nat.le_of_ble_eq_true rfl)) dL_law_1223 ⟨(Nat.le_of_ble_eq_true rfl), (Nat.le_of_ble_eq_true rfl)⟩) (fun rm um H locs hm hP hD hS => ?_)
      obtain ⟨hTm, hXm, hm1, hm2⟩ := hm
      refine lv_pop hx hb dL_law_1226 rfl ?_
      refine lv_goto (tgt := 1253) hx hb dL_law_1227 (by decide) ?_
      exact K ux um H locs hGx hTm (gLk_img2 hLk hXx hMx hOx hXm hm1 hm2) hP hD hS
  · refine gz_ni hs9 ?_
    refine gz_iF hP hD hS hA (va_runV (As := [.int 3]) (rest := []) ⟨hx, hb, hml, hown, hts⟩ (f_X10_image_3 l G k sa _ ad S hG) (cwV 1 hts g_L_151_s_X10_image_3 rfl rfl rfl (by decide +kernel) ⟨(Nat.le_of_ble_eq_true rfl), (Nat.le_of_ble_eq_true rfl)⟩) ⟨gP.bl, va_recv hE.K hP (ci := 10) (q0 := 0) rfl rfl, gz_preF hE hZ hS hA hP hD⟩ rfl rfl hl.1 rfl (lv_room (Nat.le_of_ble_eq_true rfl)) dL_law_1213 ⟨(Nat.le_of_ble_eq_true rfl), (Nat.le_of_ble_eq_true rfl)⟩) (fun rx ux H locs hx hP hD hS => ?_)
    obtain ⟨hGx, hXx, hMx, hOx⟩ := hx
    refine lv_pop hx hb dL_law_1216 rfl ?_
    rcases hT.2 with ⟨hz, hun⟩ | hc
    · refine lv_aload_n hx hb dL_law_1217 rfl (lv_at hl 1 rfl) ?_
      refine lv_aload_n hx hb dL_law_1218 rfl (lv_at hl 3 rfl) ?_
      refine lv_iload_n hx hb dL_law_1219 rfl (lv_at hl 0 rfl) ?_
      refine lv_iconst (v := 1) hx hb dL_law_1220 (by decide) ?_
      refine lv_iadd hx hb dL_law_1221 ?_
      refine lv_topi (fun xb_1 exb_1 => ?_)
      have ixb_1 : xb_1.toInt = i.toInt + 1 := gI_add exb_1 hi (by decide) (by decide)
      refine va_sld hx hb hX hbl hbA hS (vp_in_iff.mpr ⟨by have z := hi.1; omega, by omega⟩) dL_law_1222 ?_
      refine lv_topi (fun yb_1 eyb_1 => ?_)
      have hyy : yb_1 = ya_1 := by rw [eyb_1, eya_1, exb_1, exa_1]
      refine gz_ni (hyy.trans hs9) ?_
      refine gz_iF hP hD hS hA (va_runV (As := [.int 3]) (rest := []) ⟨hx, hb, hml, hown, hts⟩ (f_X11_image_3z l G k sa _ am T hT.1 hz hun) (cwV 1 hts g_L_154_r_image_3z rfl rfl rfl (by decide +kernel) ⟨(Nat.le_of_ble_eq_true rfl), (Nat.le_of_ble_eq_true rfl)⟩) ⟨gP.bl, va_recv hE.K hP (ci := 11) (q0 := 0) rfl rfl, gz_preF hE hZ hS hA hP hD⟩ rfl rfl hl.1 rfl (lv_room (Nat.le_of_ble_eq_true rfl)) dL_law_1223 ⟨(Nat.le_of_ble_eq_true rfl), (Nat.le_of_ble_eq_true rfl)⟩) (fun rm um H locs hm hP hD hS => ?_)
      obtain ⟨hTm, hXm, hm1, hm2⟩ := hm
      refine lv_pop hx hb dL_law_1226 rfl ?_
      refine lv_goto (tgt := 1253) hx hb dL_law_1227 (by decide) ?_
      exact K ux um H locs hGx hTm (gLk_img3 hLk hXx hMx hOx hXm hm1 hm2) hP hD hS
    · refine lv_aload_n hx hb dL_law_1217 rfl (lv_at hl 1 rfl) ?_
      refine lv_aload_n hx hb dL_law_1218 rfl (lv_at hl 3 rfl) ?_
      refine lv_iload_n hx hb dL_law_1219 rfl (lv_at hl 0 rfl) ?_
      refine lv_iconst (v := 1) hx hb dL_law_1220 (by decide) ?_
      refine lv_iadd hx hb dL_law_1221 ?_
      refine lv_topi (fun xb_1 exb_1 => ?_)
      have ixb_1 : xb_1.toInt = i.toInt + 1 := gI_add exb_1 hi (by decide) (by decide)
      refine va_sld hx hb hX hbl hbA hS (vp_in_iff.mpr ⟨by have z := hi.1; omega, by omega⟩) dL_law_1222 ?_
      refine lv_topi (fun yb_1 eyb_1 => ?_)
      have hyy : yb_1 = ya_1 := by rw [eyb_1, eya_1, exb_1, exa_1]
      refine gz_ni (hyy.trans hs9) ?_
      refine gz_iF hP hD hS hA (va_runV (As := [.int 3]) (rest := []) ⟨hx, hb, hml, hown, hts⟩ (f_X11_image_3c l G k sa _ am T hT.1 hc) (cwV 1 hts g_L_154_r_image_3c rfl rfl rfl (by decide +kernel) ⟨(Nat.le_of_ble_eq_true rfl), (Nat.le_of_ble_eq_true rfl)⟩) ⟨gP.bl, va_recv hE.K hP (ci := 11) (q0 := 0) rfl rfl, gz_preF hE hZ hS hA hP hD⟩ rfl rfl hl.1 rfl (lv_room (Nat.le_of_ble_eq_true rfl)) dL_law_1223 ⟨(Nat.le_of_ble_eq_true rfl), (Nat.le_of_ble_eq_true rfl)⟩) (fun rm um H locs hm hP hD hS => ?_)
      obtain ⟨hTm, hXm, hm1, hm2⟩ := hm
      refine lv_pop hx hb dL_law_1226 rfl ?_
      refine lv_goto (tgt := 1253) hx hb dL_law_1227 (by decide) ?_
      exact K ux um H locs hGx hTm (gLk_img3 hLk hXx hMx hOx hXm hm1 hm2) hP hD hS
set_option maxHeartbeats 4000000 in
set_option maxRecDepth 100000 in
theorem law_back {p : Program} {e : Env} {s : State} {m : MethodId} {below : List Frame} {meth : Method} {c : Code} (l : Launch) (G : va_G) (k : Nat → ClassId) (sa : Nat → Nat) {b L : Nat} {xs : Nat → Int32} (C0 : lw_At p s m meth c b L xs) (hE : gE G k sa s) {A : Nat → Prop} (hAe : A = fun q => s.heap.size ≤ q) (hZ : gZ sa A s s.heap) (ad am : Nat → Nat) (S T : gS) (hG : gGI ad S) (hT : gGM T) (hLk : gLk S T) (i : Int32) (hi : gIv 0 3066 i) (hiL : i.toInt + 6 ≤ (L : Int)) {H : Heap} {locs : List Loc} {ls : Array Slot} (hP : va_P G vwCl (ggW k ad S ++ mmW k am T) H) (hD : va_D A (ggW k ad S ++ mmW k am T)) (hS : va_S A s.heap H locs) (hl : lv_has ls 4 [(3, .int i), (2, .ref (am 0)), (1, .ref (ad 100)), (0, .ref b)]) (K : ∀ (S' T' : gS) (H' : Heap) (locs' : List Loc), gGI ad S' → gGM T' → gLk S' T' → va_P G vwCl (ggW k ad S' ++ mmW k am T') H' → va_D A (ggW k ad S' ++ mmW k am T') → va_S A s.heap H' locs' → W p l e room_1 s m #[Value.ref b] below meth c H' locs' 285 12688 (lw_Z below #[Value.ref b] s) (F0 m 1253 ls [])) : W p l e room_1 s m #[Value.ref b] below meth c H locs 285 12688 (lw_Z below #[Value.ref b] s) (F0 m 1230 ls []) := by
  obtain ⟨hx, hb, hr, hml, hown, hts, hX, hbl, hlocks, hgv⟩ := id C0
  have hA : ∀ q : Nat, s.heap.size ≤ q → A q := by rw [hAe]; exact fun _ h => h
  have hbA : ¬ A b := by rw [hAe]; exact Nat.not_le.mpr hbl
  refine lv_aload_n hx hb dL_law_1230 rfl (lv_at hl 2 rfl) ?_
  refine lv_aload_n hx hb dL_law_1231 rfl (lv_at hl 3 rfl) ?_
  refine lv_iload_n hx hb dL_law_1232 rfl (lv_at hl 0 rfl) ?_
  refine lv_iconst (v := 1) hx hb dL_law_1233 (by decide) ?_
  refine lv_iadd hx hb dL_law_1234 ?_
  refine lv_topi (fun xa_1 exa_1 => ?_)
  have ixa_1 : xa_1.toInt = i.toInt + 1 := gI_add exa_1 hi (by decide) (by decide)
  refine va_sld hx hb hX hbl hbA hS (vp_in_iff.mpr ⟨by have z := hi.1; omega, by omega⟩) dL_law_1235 ?_
  refine lv_topi (fun ya_1 eya_1 => ?_)
  rcases gz_k4 ya_1 with hs9 | hs9 | hs9 | hs9 | hs9 | hs9
  · refine gz_iF hP hD hS hA (va_runV (As := [.int ya_1]) (rest := []) ⟨hx, hb, hml, hown, hts⟩ (f_X10_back_lo l G k sa _ ad S hG ya_1 hs9) (cwV 1 hts g_L_155_s_X10_back_lo rfl rfl rfl (by decide +kernel) ⟨(Nat.le_of_ble_eq_true rfl), (Nat.le_of_ble_eq_true rfl)⟩) ⟨gP.bl, va_recv hE.K hP (ci := 10) (q0 := 0) rfl rfl, gz_preF hE hZ hS hA hP hD⟩ rfl rfl hl.1 rfl (lv_room (Nat.le_of_ble_eq_true rfl)) dL_law_1236 ⟨(Nat.le_of_ble_eq_true rfl), (Nat.le_of_ble_eq_true rfl)⟩) (fun rx ux H locs hx hP hD hS => ?_)
    obtain ⟨hGx, hXx⟩ := hx
    refine lv_pop hx hb dL_law_1239 rfl ?_
    refine lv_aload_n hx hb dL_law_1240 rfl (lv_at hl 1 rfl) ?_
    refine lv_aload_n hx hb dL_law_1241 rfl (lv_at hl 3 rfl) ?_
    refine lv_iload_n hx hb dL_law_1242 rfl (lv_at hl 0 rfl) ?_
    refine lv_iconst (v := 1) hx hb dL_law_1243 (by decide) ?_
    refine lv_iadd hx hb dL_law_1244 ?_
    refine lv_topi (fun xb_1 exb_1 => ?_)
    have ixb_1 : xb_1.toInt = i.toInt + 1 := gI_add exb_1 hi (by decide) (by decide)
    refine va_sld hx hb hX hbl hbA hS (vp_in_iff.mpr ⟨by have z := hi.1; omega, by omega⟩) dL_law_1245 ?_
    refine lv_topi (fun yb_1 eyb_1 => ?_)
    have hyy : yb_1 = ya_1 := by rw [eyb_1, eya_1, exb_1, exa_1]
    refine gz_iF hP hD hS hA (va_runV (As := [.int yb_1]) (rest := []) ⟨hx, hb, hml, hown, hts⟩ (f_X11_back_lo l G k sa _ am T hT.1 hT.2 yb_1 (by rw [hyy]; exact hs9)) (cwV 1 hts g_L_158_r_back_lo rfl rfl rfl (by decide +kernel) ⟨(Nat.le_of_ble_eq_true rfl), (Nat.le_of_ble_eq_true rfl)⟩) ⟨gP.bl, va_recv hE.K hP (ci := 11) (q0 := 0) rfl rfl, gz_preF hE hZ hS hA hP hD⟩ rfl rfl hl.1 rfl (lv_room (Nat.le_of_ble_eq_true rfl)) dL_law_1246 ⟨(Nat.le_of_ble_eq_true rfl), (Nat.le_of_ble_eq_true rfl)⟩) (fun rm um H locs hm hP hD hS => ?_)
    obtain ⟨hTm, hXm⟩ := hm
    refine lv_pop hx hb dL_law_1249 rfl ?_
    refine lv_goto (tgt := 1253) hx hb dL_law_1250 (by decide) ?_
    exact K ux um H locs hGx hTm (gLk_mv hLk hXx hXm) hP hD hS
  · refine gz_iF hP hD hS hA (va_runV (As := [.int ya_1]) (rest := []) ⟨hx, hb, hml, hown, hts⟩ (f_X10_back_hi l G k sa _ ad S hG ya_1 hs9) (cwV 1 hts g_L_155_s_X10_back_hi rfl rfl rfl (by decide +kernel) ⟨(Nat.le_of_ble_eq_true rfl), (Nat.le_of_ble_eq_true rfl)⟩) ⟨gP.bl, va_recv hE.K hP (ci := 10) (q0 := 0) rfl rfl, gz_preF hE hZ hS hA hP hD⟩ rfl rfl hl.1 rfl (lv_room (Nat.le_of_ble_eq_true rfl)) dL_law_1236 ⟨(Nat.le_of_ble_eq_true rfl), (Nat.le_of_ble_eq_true rfl)⟩) (fun rx ux H locs hx hP hD hS => ?_)
    obtain ⟨hGx, hXx⟩ := hx
    refine lv_pop hx hb dL_law_1239 rfl ?_
    refine lv_aload_n hx hb dL_law_1240 rfl (lv_at hl 1 rfl) ?_
    refine lv_aload_n hx hb dL_law_1241 rfl (lv_at hl 3 rfl) ?_
    refine lv_iload_n hx hb dL_law_1242 rfl (lv_at hl 0 rfl) ?_
    refine lv_iconst (v := 1) hx hb dL_law_1243 (by decide) ?_
    refine lv_iadd hx hb dL_law_1244 ?_
    refine lv_topi (fun xb_1 exb_1 => ?_)
    have ixb_1 : xb_1.toInt = i.toInt + 1 := gI_add exb_1 hi (by decide) (by decide)
    refine va_sld hx hb hX hbl hbA hS (vp_in_iff.mpr ⟨by have z := hi.1; omega, by omega⟩) dL_law_1245 ?_
    refine lv_topi (fun yb_1 eyb_1 => ?_)
    have hyy : yb_1 = ya_1 := by rw [eyb_1, eya_1, exb_1, exa_1]
    refine gz_iF hP hD hS hA (va_runV (As := [.int yb_1]) (rest := []) ⟨hx, hb, hml, hown, hts⟩ (f_X11_back_hi l G k sa _ am T hT.1 hT.2 yb_1 (by rw [hyy]; exact hs9)) (cwV 1 hts g_L_158_r_back_hi rfl rfl rfl (by decide +kernel) ⟨(Nat.le_of_ble_eq_true rfl), (Nat.le_of_ble_eq_true rfl)⟩) ⟨gP.bl, va_recv hE.K hP (ci := 11) (q0 := 0) rfl rfl, gz_preF hE hZ hS hA hP hD⟩ rfl rfl hl.1 rfl (lv_room (Nat.le_of_ble_eq_true rfl)) dL_law_1246 ⟨(Nat.le_of_ble_eq_true rfl), (Nat.le_of_ble_eq_true rfl)⟩) (fun rm um H locs hm hP hD hS => ?_)
    obtain ⟨hTm, hXm⟩ := hm
    refine lv_pop hx hb dL_law_1249 rfl ?_
    refine lv_goto (tgt := 1253) hx hb dL_law_1250 (by decide) ?_
    exact K ux um H locs hGx hTm (gLk_mv hLk hXx hXm) hP hD hS
  · refine gz_ni hs9 ?_
    rcases gz_01 (gMem_at hG.2.1 33 rfl : gIv 0 1 (S.1 1050)) with hm9 | hm9
    · refine gz_iF hP hD hS hA (va_runV (As := [.int 0]) (rest := []) ⟨hx, hb, hml, hown, hts⟩ (f_X10_back_0_0 l G k sa _ ad S hG hm9) (cwV 1 hts g_L_155_s_X10_backv_0_0 rfl rfl rfl (by decide +kernel) ⟨(Nat.le_of_ble_eq_true rfl), (Nat.le_of_ble_eq_true rfl)⟩) ⟨gP.bl, va_recv hE.K hP (ci := 10) (q0 := 0) rfl rfl, gz_preF hE hZ hS hA hP hD⟩ rfl rfl hl.1 rfl (lv_room (Nat.le_of_ble_eq_true rfl)) dL_law_1236 ⟨(Nat.le_of_ble_eq_true rfl), (Nat.le_of_ble_eq_true rfl)⟩) (fun rx ux H locs hx hP hD hS => ?_)
      obtain ⟨hGx, hXx⟩ := hx
      refine lv_pop hx hb dL_law_1239 rfl ?_
      refine lv_aload_n hx hb dL_law_1240 rfl (lv_at hl 1 rfl) ?_
      refine lv_aload_n hx hb dL_law_1241 rfl (lv_at hl 3 rfl) ?_
      refine lv_iload_n hx hb dL_law_1242 rfl (lv_at hl 0 rfl) ?_
      refine lv_iconst (v := 1) hx hb dL_law_1243 (by decide) ?_
      refine lv_iadd hx hb dL_law_1244 ?_
      refine lv_topi (fun xb_1 exb_1 => ?_)
      have ixb_1 : xb_1.toInt = i.toInt + 1 := gI_add exb_1 hi (by decide) (by decide)
      refine va_sld hx hb hX hbl hbA hS (vp_in_iff.mpr ⟨by have z := hi.1; omega, by omega⟩) dL_law_1245 ?_
      refine lv_topi (fun yb_1 eyb_1 => ?_)
      have hyy : yb_1 = ya_1 := by rw [eyb_1, eya_1, exb_1, exa_1]
      refine gz_ni (hyy.trans hs9) ?_
      refine gz_iF hP hD hS hA (va_runV (As := [.int 0]) (rest := []) ⟨hx, hb, hml, hown, hts⟩ (f_X11_back_0n l G k sa _ am T hT.1 hT.2 (gz_me0 hm9 hLk.2.2.2.2.2.1)) (cwV 1 hts g_L_158_r_back_0n rfl rfl rfl (by decide +kernel) ⟨(Nat.le_of_ble_eq_true rfl), (Nat.le_of_ble_eq_true rfl)⟩) ⟨gP.bl, va_recv hE.K hP (ci := 11) (q0 := 0) rfl rfl, gz_preF hE hZ hS hA hP hD⟩ rfl rfl hl.1 rfl (lv_room (Nat.le_of_ble_eq_true rfl)) dL_law_1246 ⟨(Nat.le_of_ble_eq_true rfl), (Nat.le_of_ble_eq_true rfl)⟩) (fun rm um H locs hm hP hD hS => ?_)
      obtain ⟨hTm, hXm⟩ := hm
      refine lv_pop hx hb dL_law_1249 rfl ?_
      refine lv_goto (tgt := 1253) hx hb dL_law_1250 (by decide) ?_
      exact K ux um H locs hGx hTm (gLk_mv hLk hXx hXm) hP hD hS
    · refine gz_iF hP hD hS hA (va_runV (As := [.int 0]) (rest := []) ⟨hx, hb, hml, hown, hts⟩ (f_X10_back_0_1 l G k sa _ ad S hG hm9) (cwV 1 hts g_L_155_s_X10_backv_0_1 rfl rfl rfl (by decide +kernel) ⟨(Nat.le_of_ble_eq_true rfl), (Nat.le_of_ble_eq_true rfl)⟩) ⟨gP.bl, va_recv hE.K hP (ci := 10) (q0 := 0) rfl rfl, gz_preF hE hZ hS hA hP hD⟩ rfl rfl hl.1 rfl (lv_room (Nat.le_of_ble_eq_true rfl)) dL_law_1236 ⟨(Nat.le_of_ble_eq_true rfl), (Nat.le_of_ble_eq_true rfl)⟩) (fun rx ux H locs hx hP hD hS => ?_)
      obtain ⟨hGx, hXx, hOx⟩ := hx
      refine lv_pop hx hb dL_law_1239 rfl ?_
      rcases hT.1.2.2.2.2.2.1 0 (by decide) with hik | hik
      · refine lv_aload_n hx hb dL_law_1240 rfl (lv_at hl 1 rfl) ?_
        refine lv_aload_n hx hb dL_law_1241 rfl (lv_at hl 3 rfl) ?_
        refine lv_iload_n hx hb dL_law_1242 rfl (lv_at hl 0 rfl) ?_
        refine lv_iconst (v := 1) hx hb dL_law_1243 (by decide) ?_
        refine lv_iadd hx hb dL_law_1244 ?_
        refine lv_topi (fun xb_1 exb_1 => ?_)
        have ixb_1 : xb_1.toInt = i.toInt + 1 := gI_add exb_1 hi (by decide) (by decide)
        refine va_sld hx hb hX hbl hbA hS (vp_in_iff.mpr ⟨by have z := hi.1; omega, by omega⟩) dL_law_1245 ?_
        refine lv_topi (fun yb_1 eyb_1 => ?_)
        have hyy : yb_1 = ya_1 := by rw [eyb_1, eya_1, exb_1, exa_1]
        refine gz_ni (hyy.trans hs9) ?_
        refine gz_iF hP hD hS hA (va_runV (As := [.int 0]) (rest := []) ⟨hx, hb, hml, hown, hts⟩ (f_X11_back_0z l G k sa _ am T hT.1 hT.2 hik (gz_me1 hm9 hLk.2.2.2.2.2.1)) (cwV 1 hts g_L_158_r_back_0z rfl rfl rfl (by decide +kernel) ⟨(Nat.le_of_ble_eq_true rfl), (Nat.le_of_ble_eq_true rfl)⟩) ⟨gP.bl, va_recv hE.K hP (ci := 11) (q0 := 0) rfl rfl, gz_preF hE hZ hS hA hP hD⟩ rfl rfl hl.1 rfl (lv_room (Nat.le_of_ble_eq_true rfl)) dL_law_1246 ⟨(Nat.le_of_ble_eq_true rfl), (Nat.le_of_ble_eq_true rfl)⟩) (fun rm um H locs hm hP hD hS => ?_)
        obtain ⟨hTm, hXm, hm1, hm2⟩ := hm
        refine lv_pop hx hb dL_law_1249 rfl ?_
        refine lv_goto (tgt := 1253) hx hb dL_law_1250 (by decide) ?_
        exact K ux um H locs hGx hTm (gLk_bk0 hLk hXx hOx hXm hm1 hm2) hP hD hS
      · refine lv_aload_n hx hb dL_law_1240 rfl (lv_at hl 1 rfl) ?_
        refine lv_aload_n hx hb dL_law_1241 rfl (lv_at hl 3 rfl) ?_
        refine lv_iload_n hx hb dL_law_1242 rfl (lv_at hl 0 rfl) ?_
        refine lv_iconst (v := 1) hx hb dL_law_1243 (by decide) ?_
        refine lv_iadd hx hb dL_law_1244 ?_
        refine lv_topi (fun xb_1 exb_1 => ?_)
        have ixb_1 : xb_1.toInt = i.toInt + 1 := gI_add exb_1 hi (by decide) (by decide)
        refine va_sld hx hb hX hbl hbA hS (vp_in_iff.mpr ⟨by have z := hi.1; omega, by omega⟩) dL_law_1245 ?_
        refine lv_topi (fun yb_1 eyb_1 => ?_)
        have hyy : yb_1 = ya_1 := by rw [eyb_1, eya_1, exb_1, exa_1]
        refine gz_ni (hyy.trans hs9) ?_
        refine gz_iF hP hD hS hA (va_runV (As := [.int 0]) (rest := []) ⟨hx, hb, hml, hown, hts⟩ (f_X11_back_0c l G k sa _ am T hT.1 hT.2 hik (gz_me1 hm9 hLk.2.2.2.2.2.1)) (cwV 1 hts g_L_158_r_back_0c rfl rfl rfl (by decide +kernel) ⟨(Nat.le_of_ble_eq_true rfl), (Nat.le_of_ble_eq_true rfl)⟩) ⟨gP.bl, va_recv hE.K hP (ci := 11) (q0 := 0) rfl rfl, gz_preF hE hZ hS hA hP hD⟩ rfl rfl hl.1 rfl (lv_room (Nat.le_of_ble_eq_true rfl)) dL_law_1246 ⟨(Nat.le_of_ble_eq_true rfl), (Nat.le_of_ble_eq_true rfl)⟩) (fun rm um H locs hm hP hD hS => ?_)
        obtain ⟨hTm, hXm, hm1, hm2⟩ := hm
        refine lv_pop hx hb dL_law_1249 rfl ?_
        refine lv_goto (tgt := 1253) hx hb dL_law_1250 (by decide) ?_
        exact K ux um H locs hGx hTm (gLk_bk0 hLk hXx hOx hXm hm1 hm2) hP hD hS
  · refine gz_ni hs9 ?_
    rcases gz_01 (gMem_at hG.2.1 41 rfl : gIv 0 1 (S.1 1060)) with hm9 | hm9
    · refine gz_iF hP hD hS hA (va_runV (As := [.int 1]) (rest := []) ⟨hx, hb, hml, hown, hts⟩ (f_X10_back_1_0 l G k sa _ ad S hG hm9) (cwV 1 hts g_L_155_s_X10_backv_1_0 rfl rfl rfl (by decide +kernel) ⟨(Nat.le_of_ble_eq_true rfl), (Nat.le_of_ble_eq_true rfl)⟩) ⟨gP.bl, va_recv hE.K hP (ci := 10) (q0 := 0) rfl rfl, gz_preF hE hZ hS hA hP hD⟩ rfl rfl hl.1 rfl (lv_room (Nat.le_of_ble_eq_true rfl)) dL_law_1236 ⟨(Nat.le_of_ble_eq_true rfl), (Nat.le_of_ble_eq_true rfl)⟩) (fun rx ux H locs hx hP hD hS => ?_)
      obtain ⟨hGx, hXx⟩ := hx
      refine lv_pop hx hb dL_law_1239 rfl ?_
      refine lv_aload_n hx hb dL_law_1240 rfl (lv_at hl 1 rfl) ?_
      refine lv_aload_n hx hb dL_law_1241 rfl (lv_at hl 3 rfl) ?_
      refine lv_iload_n hx hb dL_law_1242 rfl (lv_at hl 0 rfl) ?_
      refine lv_iconst (v := 1) hx hb dL_law_1243 (by decide) ?_
      refine lv_iadd hx hb dL_law_1244 ?_
      refine lv_topi (fun xb_1 exb_1 => ?_)
      have ixb_1 : xb_1.toInt = i.toInt + 1 := gI_add exb_1 hi (by decide) (by decide)
      refine va_sld hx hb hX hbl hbA hS (vp_in_iff.mpr ⟨by have z := hi.1; omega, by omega⟩) dL_law_1245 ?_
      refine lv_topi (fun yb_1 eyb_1 => ?_)
      have hyy : yb_1 = ya_1 := by rw [eyb_1, eya_1, exb_1, exa_1]
      refine gz_ni (hyy.trans hs9) ?_
      refine gz_iF hP hD hS hA (va_runV (As := [.int 1]) (rest := []) ⟨hx, hb, hml, hown, hts⟩ (f_X11_back_1n l G k sa _ am T hT.1 hT.2 (gz_me0 hm9 hLk.2.2.2.2.2.2.1)) (cwV 1 hts g_L_158_r_back_1n rfl rfl rfl (by decide +kernel) ⟨(Nat.le_of_ble_eq_true rfl), (Nat.le_of_ble_eq_true rfl)⟩) ⟨gP.bl, va_recv hE.K hP (ci := 11) (q0 := 0) rfl rfl, gz_preF hE hZ hS hA hP hD⟩ rfl rfl hl.1 rfl (lv_room (Nat.le_of_ble_eq_true rfl)) dL_law_1246 ⟨(Nat.le_of_ble_eq_true rfl), (Nat.le_of_ble_eq_true rfl)⟩) (fun rm um H locs hm hP hD hS => ?_)
      obtain ⟨hTm, hXm⟩ := hm
      refine lv_pop hx hb dL_law_1249 rfl ?_
      refine lv_goto (tgt := 1253) hx hb dL_law_1250 (by decide) ?_
      exact K ux um H locs hGx hTm (gLk_mv hLk hXx hXm) hP hD hS
    · refine gz_iF hP hD hS hA (va_runV (As := [.int 1]) (rest := []) ⟨hx, hb, hml, hown, hts⟩ (f_X10_back_1_1 l G k sa _ ad S hG hm9) (cwV 1 hts g_L_155_s_X10_backv_1_1 rfl rfl rfl (by decide +kernel) ⟨(Nat.le_of_ble_eq_true rfl), (Nat.le_of_ble_eq_true rfl)⟩) ⟨gP.bl, va_recv hE.K hP (ci := 10) (q0 := 0) rfl rfl, gz_preF hE hZ hS hA hP hD⟩ rfl rfl hl.1 rfl (lv_room (Nat.le_of_ble_eq_true rfl)) dL_law_1236 ⟨(Nat.le_of_ble_eq_true rfl), (Nat.le_of_ble_eq_true rfl)⟩) (fun rx ux H locs hx hP hD hS => ?_)
      obtain ⟨hGx, hXx, hOx⟩ := hx
      refine lv_pop hx hb dL_law_1239 rfl ?_
      rcases hT.1.2.2.2.2.2.1 1 (by decide) with hik | hik
      · refine lv_aload_n hx hb dL_law_1240 rfl (lv_at hl 1 rfl) ?_
        refine lv_aload_n hx hb dL_law_1241 rfl (lv_at hl 3 rfl) ?_
        refine lv_iload_n hx hb dL_law_1242 rfl (lv_at hl 0 rfl) ?_
        refine lv_iconst (v := 1) hx hb dL_law_1243 (by decide) ?_
        refine lv_iadd hx hb dL_law_1244 ?_
        refine lv_topi (fun xb_1 exb_1 => ?_)
        have ixb_1 : xb_1.toInt = i.toInt + 1 := gI_add exb_1 hi (by decide) (by decide)
        refine va_sld hx hb hX hbl hbA hS (vp_in_iff.mpr ⟨by have z := hi.1; omega, by omega⟩) dL_law_1245 ?_
        refine lv_topi (fun yb_1 eyb_1 => ?_)
        have hyy : yb_1 = ya_1 := by rw [eyb_1, eya_1, exb_1, exa_1]
        refine gz_ni (hyy.trans hs9) ?_
        refine gz_iF hP hD hS hA (va_runV (As := [.int 1]) (rest := []) ⟨hx, hb, hml, hown, hts⟩ (f_X11_back_1z l G k sa _ am T hT.1 hT.2 hik (gz_me1 hm9 hLk.2.2.2.2.2.2.1)) (cwV 1 hts g_L_158_r_back_1z rfl rfl rfl (by decide +kernel) ⟨(Nat.le_of_ble_eq_true rfl), (Nat.le_of_ble_eq_true rfl)⟩) ⟨gP.bl, va_recv hE.K hP (ci := 11) (q0 := 0) rfl rfl, gz_preF hE hZ hS hA hP hD⟩ rfl rfl hl.1 rfl (lv_room (Nat.le_of_ble_eq_true rfl)) dL_law_1246 ⟨(Nat.le_of_ble_eq_true rfl), (Nat.le_of_ble_eq_true rfl)⟩) (fun rm um H locs hm hP hD hS => ?_)
        obtain ⟨hTm, hXm, hm1, hm2⟩ := hm
        refine lv_pop hx hb dL_law_1249 rfl ?_
        refine lv_goto (tgt := 1253) hx hb dL_law_1250 (by decide) ?_
        exact K ux um H locs hGx hTm (gLk_bk1 hLk hXx hOx hXm hm1 hm2) hP hD hS
      · refine lv_aload_n hx hb dL_law_1240 rfl (lv_at hl 1 rfl) ?_
        refine lv_aload_n hx hb dL_law_1241 rfl (lv_at hl 3 rfl) ?_
        refine lv_iload_n hx hb dL_law_1242 rfl (lv_at hl 0 rfl) ?_
        refine lv_iconst (v := 1) hx hb dL_law_1243 (by decide) ?_
        refine lv_iadd hx hb dL_law_1244 ?_
        refine lv_topi (fun xb_1 exb_1 => ?_)
        have ixb_1 : xb_1.toInt = i.toInt + 1 := gI_add exb_1 hi (by decide) (by decide)
        refine va_sld hx hb hX hbl hbA hS (vp_in_iff.mpr ⟨by have z := hi.1; omega, by omega⟩) dL_law_1245 ?_
        refine lv_topi (fun yb_1 eyb_1 => ?_)
        have hyy : yb_1 = ya_1 := by rw [eyb_1, eya_1, exb_1, exa_1]
        refine gz_ni (hyy.trans hs9) ?_
        refine gz_iF hP hD hS hA (va_runV (As := [.int 1]) (rest := []) ⟨hx, hb, hml, hown, hts⟩ (f_X11_back_1c l G k sa _ am T hT.1 hT.2 hik (gz_me1 hm9 hLk.2.2.2.2.2.2.1)) (cwV 1 hts g_L_158_r_back_1c rfl rfl rfl (by decide +kernel) ⟨(Nat.le_of_ble_eq_true rfl), (Nat.le_of_ble_eq_true rfl)⟩) ⟨gP.bl, va_recv hE.K hP (ci := 11) (q0 := 0) rfl rfl, gz_preF hE hZ hS hA hP hD⟩ rfl rfl hl.1 rfl (lv_room (Nat.le_of_ble_eq_true rfl)) dL_law_1246 ⟨(Nat.le_of_ble_eq_true rfl), (Nat.le_of_ble_eq_true rfl)⟩) (fun rm um H locs hm hP hD hS => ?_)
        obtain ⟨hTm, hXm, hm1, hm2⟩ := hm
        refine lv_pop hx hb dL_law_1249 rfl ?_
        refine lv_goto (tgt := 1253) hx hb dL_law_1250 (by decide) ?_
        exact K ux um H locs hGx hTm (gLk_bk1 hLk hXx hOx hXm hm1 hm2) hP hD hS
  · refine gz_ni hs9 ?_
    rcases gz_01 (gMem_at hG.2.1 49 rfl : gIv 0 1 (S.1 1070)) with hm9 | hm9
    · refine gz_iF hP hD hS hA (va_runV (As := [.int 2]) (rest := []) ⟨hx, hb, hml, hown, hts⟩ (f_X10_back_2_0 l G k sa _ ad S hG hm9) (cwV 1 hts g_L_155_s_X10_backv_2_0 rfl rfl rfl (by decide +kernel) ⟨(Nat.le_of_ble_eq_true rfl), (Nat.le_of_ble_eq_true rfl)⟩) ⟨gP.bl, va_recv hE.K hP (ci := 10) (q0 := 0) rfl rfl, gz_preF hE hZ hS hA hP hD⟩ rfl rfl hl.1 rfl (lv_room (Nat.le_of_ble_eq_true rfl)) dL_law_1236 ⟨(Nat.le_of_ble_eq_true rfl), (Nat.le_of_ble_eq_true rfl)⟩) (fun rx ux H locs hx hP hD hS => ?_)
      obtain ⟨hGx, hXx⟩ := hx
      refine lv_pop hx hb dL_law_1239 rfl ?_
      refine lv_aload_n hx hb dL_law_1240 rfl (lv_at hl 1 rfl) ?_
      refine lv_aload_n hx hb dL_law_1241 rfl (lv_at hl 3 rfl) ?_
      refine lv_iload_n hx hb dL_law_1242 rfl (lv_at hl 0 rfl) ?_
      refine lv_iconst (v := 1) hx hb dL_law_1243 (by decide) ?_
      refine lv_iadd hx hb dL_law_1244 ?_
      refine lv_topi (fun xb_1 exb_1 => ?_)
      have ixb_1 : xb_1.toInt = i.toInt + 1 := gI_add exb_1 hi (by decide) (by decide)
      refine va_sld hx hb hX hbl hbA hS (vp_in_iff.mpr ⟨by have z := hi.1; omega, by omega⟩) dL_law_1245 ?_
      refine lv_topi (fun yb_1 eyb_1 => ?_)
      have hyy : yb_1 = ya_1 := by rw [eyb_1, eya_1, exb_1, exa_1]
      refine gz_ni (hyy.trans hs9) ?_
      refine gz_iF hP hD hS hA (va_runV (As := [.int 2]) (rest := []) ⟨hx, hb, hml, hown, hts⟩ (f_X11_back_2n l G k sa _ am T hT.1 hT.2 (gz_me0 hm9 hLk.2.2.2.2.2.2.2.1)) (cwV 1 hts g_L_158_r_back_2n rfl rfl rfl (by decide +kernel) ⟨(Nat.le_of_ble_eq_true rfl), (Nat.le_of_ble_eq_true rfl)⟩) ⟨gP.bl, va_recv hE.K hP (ci := 11) (q0 := 0) rfl rfl, gz_preF hE hZ hS hA hP hD⟩ rfl rfl hl.1 rfl (lv_room (Nat.le_of_ble_eq_true rfl)) dL_law_1246 ⟨(Nat.le_of_ble_eq_true rfl), (Nat.le_of_ble_eq_true rfl)⟩) (fun rm um H locs hm hP hD hS => ?_)
      obtain ⟨hTm, hXm⟩ := hm
      refine lv_pop hx hb dL_law_1249 rfl ?_
      refine lv_goto (tgt := 1253) hx hb dL_law_1250 (by decide) ?_
      exact K ux um H locs hGx hTm (gLk_mv hLk hXx hXm) hP hD hS
    · refine gz_iF hP hD hS hA (va_runV (As := [.int 2]) (rest := []) ⟨hx, hb, hml, hown, hts⟩ (f_X10_back_2_1 l G k sa _ ad S hG hm9) (cwV 1 hts g_L_155_s_X10_backv_2_1 rfl rfl rfl (by decide +kernel) ⟨(Nat.le_of_ble_eq_true rfl), (Nat.le_of_ble_eq_true rfl)⟩) ⟨gP.bl, va_recv hE.K hP (ci := 10) (q0 := 0) rfl rfl, gz_preF hE hZ hS hA hP hD⟩ rfl rfl hl.1 rfl (lv_room (Nat.le_of_ble_eq_true rfl)) dL_law_1236 ⟨(Nat.le_of_ble_eq_true rfl), (Nat.le_of_ble_eq_true rfl)⟩) (fun rx ux H locs hx hP hD hS => ?_)
      obtain ⟨hGx, hXx, hOx⟩ := hx
      refine lv_pop hx hb dL_law_1239 rfl ?_
      rcases hT.1.2.2.2.2.2.1 2 (by decide) with hik | hik
      · refine lv_aload_n hx hb dL_law_1240 rfl (lv_at hl 1 rfl) ?_
        refine lv_aload_n hx hb dL_law_1241 rfl (lv_at hl 3 rfl) ?_
        refine lv_iload_n hx hb dL_law_1242 rfl (lv_at hl 0 rfl) ?_
        refine lv_iconst (v := 1) hx hb dL_law_1243 (by decide) ?_
        refine lv_iadd hx hb dL_law_1244 ?_
        refine lv_topi (fun xb_1 exb_1 => ?_)
        have ixb_1 : xb_1.toInt = i.toInt + 1 := gI_add exb_1 hi (by decide) (by decide)
        refine va_sld hx hb hX hbl hbA hS (vp_in_iff.mpr ⟨by have z := hi.1; omega, by omega⟩) dL_law_1245 ?_
        refine lv_topi (fun yb_1 eyb_1 => ?_)
        have hyy : yb_1 = ya_1 := by rw [eyb_1, eya_1, exb_1, exa_1]
        refine gz_ni (hyy.trans hs9) ?_
        refine gz_iF hP hD hS hA (va_runV (As := [.int 2]) (rest := []) ⟨hx, hb, hml, hown, hts⟩ (f_X11_back_2z l G k sa _ am T hT.1 hT.2 hik (gz_me1 hm9 hLk.2.2.2.2.2.2.2.1)) (cwV 1 hts g_L_158_r_back_2z rfl rfl rfl (by decide +kernel) ⟨(Nat.le_of_ble_eq_true rfl), (Nat.le_of_ble_eq_true rfl)⟩) ⟨gP.bl, va_recv hE.K hP (ci := 11) (q0 := 0) rfl rfl, gz_preF hE hZ hS hA hP hD⟩ rfl rfl hl.1 rfl (lv_room (Nat.le_of_ble_eq_true rfl)) dL_law_1246 ⟨(Nat.le_of_ble_eq_true rfl), (Nat.le_of_ble_eq_true rfl)⟩) (fun rm um H locs hm hP hD hS => ?_)
        obtain ⟨hTm, hXm, hm1, hm2⟩ := hm
        refine lv_pop hx hb dL_law_1249 rfl ?_
        refine lv_goto (tgt := 1253) hx hb dL_law_1250 (by decide) ?_
        exact K ux um H locs hGx hTm (gLk_bk2 hLk hXx hOx hXm hm1 hm2) hP hD hS
      · refine lv_aload_n hx hb dL_law_1240 rfl (lv_at hl 1 rfl) ?_
        refine lv_aload_n hx hb dL_law_1241 rfl (lv_at hl 3 rfl) ?_
        refine lv_iload_n hx hb dL_law_1242 rfl (lv_at hl 0 rfl) ?_
        refine lv_iconst (v := 1) hx hb dL_law_1243 (by decide) ?_
        refine lv_iadd hx hb dL_law_1244 ?_
        refine lv_topi (fun xb_1 exb_1 => ?_)
        have ixb_1 : xb_1.toInt = i.toInt + 1 := gI_add exb_1 hi (by decide) (by decide)
        refine va_sld hx hb hX hbl hbA hS (vp_in_iff.mpr ⟨by have z := hi.1; omega, by omega⟩) dL_law_1245 ?_
        refine lv_topi (fun yb_1 eyb_1 => ?_)
        have hyy : yb_1 = ya_1 := by rw [eyb_1, eya_1, exb_1, exa_1]
        refine gz_ni (hyy.trans hs9) ?_
        refine gz_iF hP hD hS hA (va_runV (As := [.int 2]) (rest := []) ⟨hx, hb, hml, hown, hts⟩ (f_X11_back_2c l G k sa _ am T hT.1 hT.2 hik (gz_me1 hm9 hLk.2.2.2.2.2.2.2.1)) (cwV 1 hts g_L_158_r_back_2c rfl rfl rfl (by decide +kernel) ⟨(Nat.le_of_ble_eq_true rfl), (Nat.le_of_ble_eq_true rfl)⟩) ⟨gP.bl, va_recv hE.K hP (ci := 11) (q0 := 0) rfl rfl, gz_preF hE hZ hS hA hP hD⟩ rfl rfl hl.1 rfl (lv_room (Nat.le_of_ble_eq_true rfl)) dL_law_1246 ⟨(Nat.le_of_ble_eq_true rfl), (Nat.le_of_ble_eq_true rfl)⟩) (fun rm um H locs hm hP hD hS => ?_)
        obtain ⟨hTm, hXm, hm1, hm2⟩ := hm
        refine lv_pop hx hb dL_law_1249 rfl ?_
        refine lv_goto (tgt := 1253) hx hb dL_law_1250 (by decide) ?_
        exact K ux um H locs hGx hTm (gLk_bk2 hLk hXx hOx hXm hm1 hm2) hP hD hS
  · refine gz_ni hs9 ?_
    rcases gz_01 (gMem_at hG.2.1 57 rfl : gIv 0 1 (S.1 1080)) with hm9 | hm9
    · refine gz_iF hP hD hS hA (va_runV (As := [.int 3]) (rest := []) ⟨hx, hb, hml, hown, hts⟩ (f_X10_back_3_0 l G k sa _ ad S hG hm9) (cwV 1 hts g_L_155_s_X10_backv_3_0 rfl rfl rfl (by decide +kernel) ⟨(Nat.le_of_ble_eq_true rfl), (Nat.le_of_ble_eq_true rfl)⟩) ⟨gP.bl, va_recv hE.K hP (ci := 10) (q0 := 0) rfl rfl, gz_preF hE hZ hS hA hP hD⟩ rfl rfl hl.1 rfl (lv_room (Nat.le_of_ble_eq_true rfl)) dL_law_1236 ⟨(Nat.le_of_ble_eq_true rfl), (Nat.le_of_ble_eq_true rfl)⟩) (fun rx ux H locs hx hP hD hS => ?_)
      obtain ⟨hGx, hXx⟩ := hx
      refine lv_pop hx hb dL_law_1239 rfl ?_
      refine lv_aload_n hx hb dL_law_1240 rfl (lv_at hl 1 rfl) ?_
      refine lv_aload_n hx hb dL_law_1241 rfl (lv_at hl 3 rfl) ?_
      refine lv_iload_n hx hb dL_law_1242 rfl (lv_at hl 0 rfl) ?_
      refine lv_iconst (v := 1) hx hb dL_law_1243 (by decide) ?_
      refine lv_iadd hx hb dL_law_1244 ?_
      refine lv_topi (fun xb_1 exb_1 => ?_)
      have ixb_1 : xb_1.toInt = i.toInt + 1 := gI_add exb_1 hi (by decide) (by decide)
      refine va_sld hx hb hX hbl hbA hS (vp_in_iff.mpr ⟨by have z := hi.1; omega, by omega⟩) dL_law_1245 ?_
      refine lv_topi (fun yb_1 eyb_1 => ?_)
      have hyy : yb_1 = ya_1 := by rw [eyb_1, eya_1, exb_1, exa_1]
      refine gz_ni (hyy.trans hs9) ?_
      refine gz_iF hP hD hS hA (va_runV (As := [.int 3]) (rest := []) ⟨hx, hb, hml, hown, hts⟩ (f_X11_back_3n l G k sa _ am T hT.1 hT.2 (gz_me0 hm9 hLk.2.2.2.2.2.2.2.2)) (cwV 1 hts g_L_158_r_back_3n rfl rfl rfl (by decide +kernel) ⟨(Nat.le_of_ble_eq_true rfl), (Nat.le_of_ble_eq_true rfl)⟩) ⟨gP.bl, va_recv hE.K hP (ci := 11) (q0 := 0) rfl rfl, gz_preF hE hZ hS hA hP hD⟩ rfl rfl hl.1 rfl (lv_room (Nat.le_of_ble_eq_true rfl)) dL_law_1246 ⟨(Nat.le_of_ble_eq_true rfl), (Nat.le_of_ble_eq_true rfl)⟩) (fun rm um H locs hm hP hD hS => ?_)
      obtain ⟨hTm, hXm⟩ := hm
      refine lv_pop hx hb dL_law_1249 rfl ?_
      refine lv_goto (tgt := 1253) hx hb dL_law_1250 (by decide) ?_
      exact K ux um H locs hGx hTm (gLk_mv hLk hXx hXm) hP hD hS
    · refine gz_iF hP hD hS hA (va_runV (As := [.int 3]) (rest := []) ⟨hx, hb, hml, hown, hts⟩ (f_X10_back_3_1 l G k sa _ ad S hG hm9) (cwV 1 hts g_L_155_s_X10_backv_3_1 rfl rfl rfl (by decide +kernel) ⟨(Nat.le_of_ble_eq_true rfl), (Nat.le_of_ble_eq_true rfl)⟩) ⟨gP.bl, va_recv hE.K hP (ci := 10) (q0 := 0) rfl rfl, gz_preF hE hZ hS hA hP hD⟩ rfl rfl hl.1 rfl (lv_room (Nat.le_of_ble_eq_true rfl)) dL_law_1236 ⟨(Nat.le_of_ble_eq_true rfl), (Nat.le_of_ble_eq_true rfl)⟩) (fun rx ux H locs hx hP hD hS => ?_)
      obtain ⟨hGx, hXx, hOx⟩ := hx
      refine lv_pop hx hb dL_law_1239 rfl ?_
      rcases hT.1.2.2.2.2.2.1 3 (by decide) with hik | hik
      · refine lv_aload_n hx hb dL_law_1240 rfl (lv_at hl 1 rfl) ?_
        refine lv_aload_n hx hb dL_law_1241 rfl (lv_at hl 3 rfl) ?_
        refine lv_iload_n hx hb dL_law_1242 rfl (lv_at hl 0 rfl) ?_
        refine lv_iconst (v := 1) hx hb dL_law_1243 (by decide) ?_
        refine lv_iadd hx hb dL_law_1244 ?_
        refine lv_topi (fun xb_1 exb_1 => ?_)
        have ixb_1 : xb_1.toInt = i.toInt + 1 := gI_add exb_1 hi (by decide) (by decide)
        refine va_sld hx hb hX hbl hbA hS (vp_in_iff.mpr ⟨by have z := hi.1; omega, by omega⟩) dL_law_1245 ?_
        refine lv_topi (fun yb_1 eyb_1 => ?_)
        have hyy : yb_1 = ya_1 := by rw [eyb_1, eya_1, exb_1, exa_1]
        refine gz_ni (hyy.trans hs9) ?_
        refine gz_iF hP hD hS hA (va_runV (As := [.int 3]) (rest := []) ⟨hx, hb, hml, hown, hts⟩ (f_X11_back_3z l G k sa _ am T hT.1 hT.2 hik (gz_me1 hm9 hLk.2.2.2.2.2.2.2.2)) (cwV 1 hts g_L_158_r_back_3z rfl rfl rfl (by decide +kernel) ⟨(Nat.le_of_ble_eq_true rfl), (Nat.le_of_ble_eq_true rfl)⟩) ⟨gP.bl, va_recv hE.K hP (ci := 11) (q0 := 0) rfl rfl, gz_preF hE hZ hS hA hP hD⟩ rfl rfl hl.1 rfl (lv_room (Nat.le_of_ble_eq_true rfl)) dL_law_1246 ⟨(Nat.le_of_ble_eq_true rfl), (Nat.le_of_ble_eq_true rfl)⟩) (fun rm um H locs hm hP hD hS => ?_)
        obtain ⟨hTm, hXm, hm1, hm2⟩ := hm
        refine lv_pop hx hb dL_law_1249 rfl ?_
        refine lv_goto (tgt := 1253) hx hb dL_law_1250 (by decide) ?_
        exact K ux um H locs hGx hTm (gLk_bk3 hLk hXx hOx hXm hm1 hm2) hP hD hS
      · refine lv_aload_n hx hb dL_law_1240 rfl (lv_at hl 1 rfl) ?_
        refine lv_aload_n hx hb dL_law_1241 rfl (lv_at hl 3 rfl) ?_
        refine lv_iload_n hx hb dL_law_1242 rfl (lv_at hl 0 rfl) ?_
        refine lv_iconst (v := 1) hx hb dL_law_1243 (by decide) ?_
        refine lv_iadd hx hb dL_law_1244 ?_
        refine lv_topi (fun xb_1 exb_1 => ?_)
        have ixb_1 : xb_1.toInt = i.toInt + 1 := gI_add exb_1 hi (by decide) (by decide)
        refine va_sld hx hb hX hbl hbA hS (vp_in_iff.mpr ⟨by have z := hi.1; omega, by omega⟩) dL_law_1245 ?_
        refine lv_topi (fun yb_1 eyb_1 => ?_)
        have hyy : yb_1 = ya_1 := by rw [eyb_1, eya_1, exb_1, exa_1]
        refine gz_ni (hyy.trans hs9) ?_
        refine gz_iF hP hD hS hA (va_runV (As := [.int 3]) (rest := []) ⟨hx, hb, hml, hown, hts⟩ (f_X11_back_3c l G k sa _ am T hT.1 hT.2 hik (gz_me1 hm9 hLk.2.2.2.2.2.2.2.2)) (cwV 1 hts g_L_158_r_back_3c rfl rfl rfl (by decide +kernel) ⟨(Nat.le_of_ble_eq_true rfl), (Nat.le_of_ble_eq_true rfl)⟩) ⟨gP.bl, va_recv hE.K hP (ci := 11) (q0 := 0) rfl rfl, gz_preF hE hZ hS hA hP hD⟩ rfl rfl hl.1 rfl (lv_room (Nat.le_of_ble_eq_true rfl)) dL_law_1246 ⟨(Nat.le_of_ble_eq_true rfl), (Nat.le_of_ble_eq_true rfl)⟩) (fun rm um H locs hm hP hD hS => ?_)
        obtain ⟨hTm, hXm, hm1, hm2⟩ := hm
        refine lv_pop hx hb dL_law_1249 rfl ?_
        refine lv_goto (tgt := 1253) hx hb dL_law_1250 (by decide) ?_
        exact K ux um H locs hGx hTm (gLk_bk3 hLk hXx hOx hXm hm1 hm2) hP hD hS
