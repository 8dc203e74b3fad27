set_option maxHeartbeats 4000000 in
set_option maxRecDepth 100000 in
theorem c_X10_person (l : Launch) (G : va_G) (k : Nat → ClassId) (sa : Nat → Nat) (h0 : Nat) (v : Nat → Nat) (w : Nat → Nat) (a : Int32) (b : Int32) : Met l yX10_person vs_c_X10_person ({ frames := 2, cells := 0, slots := 0, locals := 43 } : Room) (gR G k sa [.ref h0, .int a, .int b] [(h0, .inr (10, [.ref (v 0), .ref (v 1), .ref (v 2), .ref (v 3), .ref (v 4), .int 0, .ref (v 5), .ref (v 6), .ref (v 7), .ref (v 8), .ref (v 9), .ref (v 10), .ref (v 11), .ref (v 12), .ref (v 13), .int 0])), (v 5, .inr (9, [.ref (w 0), .ref (w 1), .ref (w 2), .ref (w 3), .ref (w 4), .int 0, .int 0, .int (-1), .int 0])), (w 1, .inr (2, [.int 0, .int 0, .long 0, .ref (w 13), .ref (w 14), .ref (w 15), .ref (w 16)]))]) (vp_Si (fun r => r = (-2))) 0 0 (fun _ => False) := by
  refine gz_metR (cc := cX10_person) (maxL := 4) (ret := (some .int)) (by decide) rfl (Nat.le_of_ble_eq_true rfl) ?_
  intro p_ e_ s_ m below_ meth_ c_ ls hx hb hr hml hts hown hlocks hP hE hl
  have hl : lv_has ls 4 [(0, .ref h0), (1, .int a), (2, .int b)] := hl
  refine lv_aload_n hx hb dX10_person_0 rfl (lv_at hl 0 rfl) ?_
  refine lv_iload_n hx hb dX10_person_1 rfl (lv_at hl 1 rfl) ?_
  refine vp_callSi (W.runV (As := [.int a]) (rest := []) ⟨hx, hb, hml, hown, hts⟩ (c_X10_isPerson l G k sa h0 v w a) (cwV 1 hts g_c_X10_person_139_c_X10_isPerson rfl rfl rfl (by decide +kernel) ⟨(Nat.le_of_ble_eq_true rfl), (Nat.le_of_ble_eq_true rfl)⟩) ⟨gR.bl, va_recv hE.K hP (ci := 10) (q0 := 0) rfl rfl, (gR.pre (wc := [(h0, .inr (10, [.ref (v 0), .ref (v 1), .ref (v 2), .ref (v 3), .ref (v 4), .int 0, .ref (v 5), .ref (v 6), .ref (v 7), .ref (v 8), .ref (v 9), .ref (v 10), .ref (v 11), .ref (v 12), .ref (v 13), .int 0])), (v 5, .inr (9, [.ref (w 0), .ref (w 1), .ref (w 2), .ref (w 3), .ref (w 4), .int 0, .int 0, .int (-1), .int 0])), (w 1, .inr (2, [.int 0, .int 0, .long 0, .ref (w 13), .ref (w 14), .ref (w 15), .ref (w 16)]))]) hE hP [0, 1, 2] rfl)⟩ rfl rfl hl.1 rfl (lv_room (Nat.le_of_ble_eq_true rfl)) dX10_person_2 ⟨(Nat.le_of_ble_eq_true rfl), (Nat.le_of_ble_eq_true rfl)⟩) (fun r_1 hr_1 => ?_)
  obtain rfl : r_1 = 0 := hr_1
  refine lv_if_eq (tgt := 17) hx hb dX10_person_5 (by decide) (fun _ => ?_) (fun h9 => absurd h9 (by decide))
  refine lv_bipush (v := (-2)) hx hb dX10_person_17 (by decide) ?_
  exact W.iret (v := (-2)) hx hb hr (fun t ht hW => ⟨(-2), rfl, rfl, ht⟩) (fun _ h9 => absurd h9 List.not_mem_nil) dX10_person_19
set_option maxHeartbeats 4000000 in
set_option maxRecDepth 100000 in
theorem c_X10_wind (l : Launch) (G : va_G) (k : Nat → ClassId) (sa : Nat → Nat) (h0 : Nat) (v : Nat → Nat) (w : Nat → Nat) (a : Int32) (b : Int32) : Met l yX10_wind vs_c_X10_wind ({ frames := 1, cells := 0, slots := 0, locals := 20 } : Room) (gR G k sa [.ref h0, .int a, .int b] [(h0, .inr (10, [.ref (v 0), .ref (v 1), .ref (v 2), .ref (v 3), .ref (v 4), .int 0, .ref (v 5), .ref (v 6), .ref (v 7), .ref (v 8), .ref (v 9), .ref (v 10), .ref (v 11), .ref (v 12), .ref (v 13), .int 0])), (v 5, .inr (9, [.ref (w 0), .ref (w 1), .ref (w 2), .ref (w 3), .ref (w 4), .int 0, .int 0, .int (-1), .int 0])), (w 0, .inr (0, [.int 0, .int 0, .ref (w 5), .ref (w 6), .ref (w 7), .ref (w 8)]))]) (vp_Si (fun r => r = (-1))) 0 0 (fun _ => False) := by
  refine gz_metR (cc := cX10_wind) (maxL := 3) (ret := (some .int)) (by decide) rfl (Nat.le_of_ble_eq_true rfl) ?_
  intro p_ e_ s_ m below_ meth_ c_ ls hx hb hr hml hts hown hlocks hP hE hl
  have hl : lv_has ls 3 [(0, .ref h0), (1, .int a), (2, .int b)] := hl
  refine lv_aload_n hx hb dX10_wind_0 rfl (lv_at hl 0 rfl) ?_
  refine vp_callSi (W.runV (As := []) (rest := []) ⟨hx, hb, hml, hown, hts⟩ (c_X10_isTold l G k sa h0 v w) (cwV 0 hts g_c_X10_wind_158_c_X10_isTold rfl rfl rfl (by decide +kernel) ⟨(Nat.le_of_ble_eq_true rfl), (Nat.le_of_ble_eq_true rfl)⟩) ⟨gR.bl, va_recv hE.K hP (ci := 10) (q0 := 0) rfl rfl, (gR.pre (wc := [(h0, .inr (10, [.ref (v 0), .ref (v 1), .ref (v 2), .ref (v 3), .ref (v 4), .int 0, .ref (v 5), .ref (v 6), .ref (v 7), .ref (v 8), .ref (v 9), .ref (v 10), .ref (v 11), .ref (v 12), .ref (v 13), .int 0])), (v 5, .inr (9, [.ref (w 0), .ref (w 1), .ref (w 2), .ref (w 3), .ref (w 4), .int 0, .int 0, .int (-1), .int 0])), (w 0, .inr (0, [.int 0, .int 0, .ref (w 5), .ref (w 6), .ref (w 7), .ref (w 8)]))]) hE hP [0, 1, 2] rfl)⟩ rfl rfl hl.1 rfl (lv_room (Nat.le_of_ble_eq_true rfl)) dX10_wind_1 ⟨(Nat.le_of_ble_eq_true rfl), (Nat.le_of_ble_eq_true rfl)⟩) (fun r_1 hr_1 => ?_)
  obtain rfl : r_1 = 0 := hr_1
  refine lv_if_eq (tgt := 36) hx hb dX10_wind_4 (by decide) (fun _ => ?_) (fun h9 => absurd h9 (by decide))
  refine lv_iconst (v := (-1)) hx hb dX10_wind_36 (by decide) ?_
  exact W.iret (v := (-1)) hx hb hr (fun t ht hW => ⟨(-1), rfl, rfl, ht⟩) (fun _ h9 => absurd h9 List.not_mem_nil) dX10_wind_37
set_option maxHeartbeats 4000000 in
set_option maxRecDepth 100000 in
theorem c_X10_gateIn (l : Launch) (G : va_G) (k : Nat → ClassId) (sa : Nat → Nat) (h0 : Nat) (v : Nat → Nat) (w : Nat → Nat) (a : Int32) : Met l yX10_gateIn vs_c_X10_gateIn ({ frames := 2, cells := 0, slots := 0, locals := 43 } : Room) (gR G k sa [.ref h0, .int a] [(h0, .inr (10, [.ref (v 0), .ref (v 1), .ref (v 2), .ref (v 3), .ref (v 4), .int 0, .ref (v 5), .ref (v 6), .ref (v 7), .ref (v 8), .ref (v 9), .ref (v 10), .ref (v 11), .ref (v 12), .ref (v 13), .int 0])), (v 5, .inr (9, [.ref (w 0), .ref (w 1), .ref (w 2), .ref (w 3), .ref (w 4), .int 0, .int 0, .int (-1), .int 0])), (w 0, .inr (0, [.int 0, .int 0, .ref (w 5), .ref (w 6), .ref (w 7), .ref (w 8)]))]) (vp_Si (fun r => r = (-1))) 0 0 (fun _ => False) := by
  refine gz_metR (cc := cX10_gateIn) (maxL := 2) (ret := (some .int)) (by decide) rfl (Nat.le_of_ble_eq_true rfl) ?_
  intro p_ e_ s_ m below_ meth_ c_ ls hx hb hr hml hts hown hlocks hP hE hl
  have hl : lv_has ls 2 [(0, .ref h0), (1, .int a)] := hl
  refine lv_aload_n hx hb dX10_gateIn_0 rfl (lv_at hl 0 rfl) ?_
  refine lv_iload_n hx hb dX10_gateIn_1 rfl (lv_at hl 1 rfl) ?_
  refine vp_callSi (W.runV (As := [.int a]) (rest := []) ⟨hx, hb, hml, hown, hts⟩ (c_X10_isCell l G k sa h0 v w a) (cwV 1 hts g_c_X10_gateIn_171_c_X10_isCell rfl rfl rfl (by decide +kernel) ⟨(Nat.le_of_ble_eq_true rfl), (Nat.le_of_ble_eq_true rfl)⟩) ⟨gR.bl, va_recv hE.K hP (ci := 10) (q0 := 0) rfl rfl, (gR.pre (wc := [(h0, .inr (10, [.ref (v 0), .ref (v 1), .ref (v 2), .ref (v 3), .ref (v 4), .int 0, .ref (v 5), .ref (v 6), .ref (v 7), .ref (v 8), .ref (v 9), .ref (v 10), .ref (v 11), .ref (v 12), .ref (v 13), .int 0])), (v 5, .inr (9, [.ref (w 0), .ref (w 1), .ref (w 2), .ref (w 3), .ref (w 4), .int 0, .int 0, .int (-1), .int 0])), (w 0, .inr (0, [.int 0, .int 0, .ref (w 5), .ref (w 6), .ref (w 7), .ref (w 8)]))]) hE hP [0, 1, 2] rfl)⟩ rfl rfl hl.1 rfl (lv_room (Nat.le_of_ble_eq_true rfl)) dX10_gateIn_2 ⟨(Nat.le_of_ble_eq_true rfl), (Nat.le_of_ble_eq_true rfl)⟩) (fun r_1 hr_1 => ?_)
  obtain rfl : r_1 = 0 := hr_1
  refine lv_if_ne (tgt := 10) hx hb dX10_gateIn_5 (by decide) (fun h9 => absurd h9 (by decide)) (fun _ => ?_)
  refine lv_iconst (v := (-1)) hx hb dX10_gateIn_8 (by decide) ?_
  exact W.iret (v := (-1)) hx hb hr (fun t ht hW => ⟨(-1), rfl, rfl, ht⟩) (fun _ h9 => absurd h9 List.not_mem_nil) dX10_gateIn_9
set_option maxHeartbeats 4000000 in
set_option maxRecDepth 100000 in
theorem c_X10_hour (l : Launch) (G : va_G) (k : Nat → ClassId) (sa : Nat → Nat) (h0 : Nat) (v : Nat → Nat) (w : Nat → Nat) : Met l yX10_hour vs_c_X10_hour ({ frames := 1, cells := 0, slots := 0, locals := 20 } : Room) (gR G k sa [.ref h0] [(h0, .inr (10, [.ref (v 0), .ref (v 1), .ref (v 2), .ref (v 3), .ref (v 4), .int 0, .ref (v 5), .ref (v 6), .ref (v 7), .ref (v 8), .ref (v 9), .ref (v 10), .ref (v 11), .ref (v 12), .ref (v 13), .int 0])), (v 5, .inr (9, [.ref (w 0), .ref (w 1), .ref (w 2), .ref (w 3), .ref (w 4), .int 0, .int 0, .int (-1), .int 0])), (w 0, .inr (0, [.int 0, .int 0, .ref (w 5), .ref (w 6), .ref (w 7), .ref (w 8)]))]) (vp_Si (fun r => r = (-1))) 0 0 (fun _ => False) := by
  refine gz_metR (cc := cX10_hour) (maxL := 2) (ret := (some .int)) (by decide) rfl (Nat.le_of_ble_eq_true rfl) ?_
  intro p_ e_ s_ m below_ meth_ c_ ls hx hb hr hml hts hown hlocks hP hE hl
  have hl : lv_has ls 2 [(0, .ref h0)] := hl
  refine lv_aload_n hx hb dX10_hour_0 rfl (lv_at hl 0 rfl) ?_
  refine vp_callSi (W.runV (As := []) (rest := []) ⟨hx, hb, hml, hown, hts⟩ (c_X10_isTold l G k sa h0 v w) (cwV 0 hts g_c_X10_hour_158_c_X10_isTold rfl rfl rfl (by decide +kernel) ⟨(Nat.le_of_ble_eq_true rfl), (Nat.le_of_ble_eq_true rfl)⟩) ⟨gR.bl, va_recv hE.K hP (ci := 10) (q0 := 0) rfl rfl, (gR.pre (wc := [(h0, .inr (10, [.ref (v 0), .ref (v 1), .ref (v 2), .ref (v 3), .ref (v 4), .int 0, .ref (v 5), .ref (v 6), .ref (v 7), .ref (v 8), .ref (v 9), .ref (v 10), .ref (v 11), .ref (v 12), .ref (v 13), .int 0])), (v 5, .inr (9, [.ref (w 0), .ref (w 1), .ref (w 2), .ref (w 3), .ref (w 4), .int 0, .int 0, .int (-1), .int 0])), (w 0, .inr (0, [.int 0, .int 0, .ref (w 5), .ref (w 6), .ref (w 7), .ref (w 8)]))]) hE hP [0, 1, 2] rfl)⟩ rfl rfl hl.1 rfl (lv_room (Nat.le_of_ble_eq_true rfl)) dX10_hour_1 ⟨(Nat.le_of_ble_eq_true rfl), (Nat.le_of_ble_eq_true rfl)⟩) (fun r_1 hr_1 => ?_)
  obtain rfl : r_1 = 0 := hr_1
  refine lv_if_eq (tgt := 23) hx hb dX10_hour_4 (by decide) (fun _ => ?_) (fun h9 => absurd h9 (by decide))
  refine lv_iconst (v := (-1)) hx hb dX10_hour_23 (by decide) ?_
  exact W.iret (v := (-1)) hx hb hr (fun t ht hW => ⟨(-1), rfl, rfl, ht⟩) (fun _ h9 => absurd h9 List.not_mem_nil) dX10_hour_24
set_option maxHeartbeats 4000000 in
set_option maxRecDepth 100000 in
theorem c_X10_tell (l : Launch) (G : va_G) (k : Nat → ClassId) (sa : Nat → Nat) (h0 : Nat) (v : Nat → Nat) (w : Nat → Nat) (a : Int32) (b : Int32) : Met l yX10_tell vs_c_X10_tell ({ frames := 3, cells := 0, slots := 0, locals := 64 } : Room) (gR G k sa [.ref h0, .int a, .int b] [(h0, .inr (10, [.ref (v 0), .ref (v 1), .ref (v 2), .ref (v 3), .ref (v 4), .int 0, .ref (v 5), .ref (v 6), .ref (v 7), .ref (v 8), .ref (v 9), .ref (v 10), .ref (v 11), .ref (v 12), .ref (v 13), .int 0])), (v 5, .inr (9, [.ref (w 0), .ref (w 1), .ref (w 2), .ref (w 3), .ref (w 4), .int 0, .int 0, .int (-1), .int 0])), (w 1, .inr (2, [.int 0, .int 0, .long 0, .ref (w 13), .ref (w 14), .ref (w 15), .ref (w 16)]))]) (vp_Si (fun r => r = (-1))) 0 0 (fun _ => False) := by
  refine gz_metR (cc := cX10_tell) (maxL := 3) (ret := (some .int)) (by decide) rfl (Nat.le_of_ble_eq_true rfl) ?_
  intro p_ e_ s_ m below_ meth_ c_ ls hx hb hr hml hts hown hlocks hP hE hl
  have hl : lv_has ls 3 [(0, .ref h0), (1, .int a), (2, .int b)] := hl
  refine lv_aload_n hx hb dX10_tell_0 rfl (lv_at hl 0 rfl) ?_
  refine lv_iload_n hx hb dX10_tell_1 rfl (lv_at hl 1 rfl) ?_
  refine vp_callSi (W.runV (As := [.int a]) (rest := []) ⟨hx, hb, hml, hown, hts⟩ (c_X10_isDry l G k sa h0 v w a) (cwV 1 hts g_c_X10_tell_228_c_X10_isDry rfl rfl rfl (by decide +kernel) ⟨(Nat.le_of_ble_eq_true rfl), (Nat.le_of_ble_eq_true rfl)⟩) ⟨gR.bl, va_recv hE.K hP (ci := 10) (q0 := 0) rfl rfl, (gR.pre (wc := [(h0, .inr (10, [.ref (v 0), .ref (v 1), .ref (v 2), .ref (v 3), .ref (v 4), .int 0, .ref (v 5), .ref (v 6), .ref (v 7), .ref (v 8), .ref (v 9), .ref (v 10), .ref (v 11), .ref (v 12), .ref (v 13), .int 0])), (v 5, .inr (9, [.ref (w 0), .ref (w 1), .ref (w 2), .ref (w 3), .ref (w 4), .int 0, .int 0, .int (-1), .int 0])), (w 1, .inr (2, [.int 0, .int 0, .long 0, .ref (w 13), .ref (w 14), .ref (w 15), .ref (w 16)]))]) hE hP [0, 1, 2] rfl)⟩ rfl rfl hl.1 rfl (lv_room (Nat.le_of_ble_eq_true rfl)) dX10_tell_2 ⟨(Nat.le_of_ble_eq_true rfl), (Nat.le_of_ble_eq_true rfl)⟩) (fun r_1 hr_1 => ?_)
  obtain rfl : r_1 = 0 := hr_1
  refine lv_if_eq (tgt := 34) hx hb dX10_tell_5 (by decide) (fun _ => ?_) (fun h9 => absurd h9 (by decide))
  refine lv_iconst (v := (-1)) hx hb dX10_tell_34 (by decide) ?_
  exact W.iret (v := (-1)) hx hb hr (fun t ht hW => ⟨(-1), rfl, rfl, ht⟩) (fun _ h9 => absurd h9 List.not_mem_nil) dX10_tell_35
set_option maxHeartbeats 4000000 in
set_option maxRecDepth 100000 in
theorem c_X10_save (l : Launch) (G : va_G) (k : Nat → ClassId) (sa : Nat → Nat) (h0 : Nat) (v : Nat → Nat) (w : Nat → Nat) (a : Int32) (b : Int32) : Met l yX10_save vs_c_X10_save ({ frames := 3, cells := 0, slots := 0, locals := 64 } : Room) (gR G k sa [.ref h0, .int a, .int b] [(h0, .inr (10, [.ref (v 0), .ref (v 1), .ref (v 2), .ref (v 3), .ref (v 4), .int 0, .ref (v 5), .ref (v 6), .ref (v 7), .ref (v 8), .ref (v 9), .ref (v 10), .ref (v 11), .ref (v 12), .ref (v 13), .int 0])), (v 5, .inr (9, [.ref (w 0), .ref (w 1), .ref (w 2), .ref (w 3), .ref (w 4), .int 0, .int 0, .int (-1), .int 0])), (w 1, .inr (2, [.int 0, .int 0, .long 0, .ref (w 13), .ref (w 14), .ref (w 15), .ref (w 16)]))]) (vp_Si (fun r => r = (-1))) 0 0 (fun _ => False) := by
  refine gz_metR (cc := cX10_save) (maxL := 3) (ret := (some .int)) (by decide) rfl (Nat.le_of_ble_eq_true rfl) ?_
  intro p_ e_ s_ m below_ meth_ c_ ls hx hb hr hml hts hown hlocks hP hE hl
  have hl : lv_has ls 3 [(0, .ref h0), (1, .int a), (2, .int b)] := hl
  refine lv_aload_n hx hb dX10_save_0 rfl (lv_at hl 0 rfl) ?_
  refine lv_iload_n hx hb dX10_save_1 rfl (lv_at hl 1 rfl) ?_
  refine vp_callSi (W.runV (As := [.int a]) (rest := []) ⟨hx, hb, hml, hown, hts⟩ (c_X10_isDry l G k sa h0 v w a) (cwV 1 hts g_c_X10_save_228_c_X10_isDry rfl rfl rfl (by decide +kernel) ⟨(Nat.le_of_ble_eq_true rfl), (Nat.le_of_ble_eq_true rfl)⟩) ⟨gR.bl, va_recv hE.K hP (ci := 10) (q0 := 0) rfl rfl, (gR.pre (wc := [(h0, .inr (10, [.ref (v 0), .ref (v 1), .ref (v 2), .ref (v 3), .ref (v 4), .int 0, .ref (v 5), .ref (v 6), .ref (v 7), .ref (v 8), .ref (v 9), .ref (v 10), .ref (v 11), .ref (v 12), .ref (v 13), .int 0])), (v 5, .inr (9, [.ref (w 0), .ref (w 1), .ref (w 2), .ref (w 3), .ref (w 4), .int 0, .int 0, .int (-1), .int 0])), (w 1, .inr (2, [.int 0, .int 0, .long 0, .ref (w 13), .ref (w 14), .ref (w 15), .ref (w 16)]))]) hE hP [0, 1, 2] rfl)⟩ rfl rfl hl.1 rfl (lv_room (Nat.le_of_ble_eq_true rfl)) dX10_save_2 ⟨(Nat.le_of_ble_eq_true rfl), (Nat.le_of_ble_eq_true rfl)⟩) (fun r_1 hr_1 => ?_)
  obtain rfl : r_1 = 0 := hr_1
  refine lv_if_eq (tgt := 18) hx hb dX10_save_5 (by decide) (fun _ => ?_) (fun h9 => absurd h9 (by decide))
  refine lv_iconst (v := (-1)) hx hb dX10_save_18 (by decide) ?_
  exact W.iret (v := (-1)) hx hb hr (fun t ht hW => ⟨(-1), rfl, rfl, ht⟩) (fun _ h9 => absurd h9 List.not_mem_nil) dX10_save_19
set_option maxHeartbeats 4000000 in
set_option maxRecDepth 100000 in
theorem c_X10_carry (l : Launch) (G : va_G) (k : Nat → ClassId) (sa : Nat → Nat) (h0 : Nat) (v : Nat → Nat) (w : Nat → Nat) (a : Int32) (b : Int32) : Met l yX10_carry vs_c_X10_carry ({ frames := 3, cells := 0, slots := 0, locals := 65 } : Room) (gR G k sa [.ref h0, .int a, .int b] [(h0, .inr (10, [.ref (v 0), .ref (v 1), .ref (v 2), .ref (v 3), .ref (v 4), .int 0, .ref (v 5), .ref (v 6), .ref (v 7), .ref (v 8), .ref (v 9), .ref (v 10), .ref (v 11), .ref (v 12), .ref (v 13), .int 0])), (v 5, .inr (9, [.ref (w 0), .ref (w 1), .ref (w 2), .ref (w 3), .ref (w 4), .int 0, .int 0, .int (-1), .int 0])), (w 1, .inr (2, [.int 0, .int 0, .long 0, .ref (w 13), .ref (w 14), .ref (w 15), .ref (w 16)]))]) (vp_Si (fun r => r = (-1))) 0 0 (fun _ => False) := by
  refine gz_metR (cc := cX10_carry) (maxL := 4) (ret := (some .int)) (by decide) rfl (Nat.le_of_ble_eq_true rfl) ?_
  intro p_ e_ s_ m below_ meth_ c_ ls hx hb hr hml hts hown hlocks hP hE hl
  have hl : lv_has ls 4 [(0, .ref h0), (1, .int a), (2, .int b)] := hl
  refine lv_aload_n hx hb dX10_carry_0 rfl (lv_at hl 0 rfl) ?_
  refine lv_iload_n hx hb dX10_carry_1 rfl (lv_at hl 1 rfl) ?_
  refine lv_iconst (v := 0) hx hb dX10_carry_2 (by decide) ?_
  refine vp_callSi (W.runV (As := [.int a, .int 0]) (rest := []) ⟨hx, hb, hml, hown, hts⟩ (c_X10_isOn l G k sa h0 v w a 0) (cwV 2 hts g_c_X10_carry_237_c_X10_isOn rfl rfl rfl (by decide +kernel) ⟨(Nat.le_of_ble_eq_true rfl), (Nat.le_of_ble_eq_true rfl)⟩) ⟨gR.bl, va_recv hE.K hP (ci := 10) (q0 := 0) rfl rfl, (gR.pre (wc := [(h0, .inr (10, [.ref (v 0), .ref (v 1), .ref (v 2), .ref (v 3), .ref (v 4), .int 0, .ref (v 5), .ref (v 6), .ref (v 7), .ref (v 8), .ref (v 9), .ref (v 10), .ref (v 11), .ref (v 12), .ref (v 13), .int 0])), (v 5, .inr (9, [.ref (w 0), .ref (w 1), .ref (w 2), .ref (w 3), .ref (w 4), .int 0, .int 0, .int (-1), .int 0])), (w 1, .inr (2, [.int 0, .int 0, .long 0, .ref (w 13), .ref (w 14), .ref (w 15), .ref (w 16)]))]) hE hP [0, 1, 2] rfl)⟩ rfl rfl hl.1 rfl (lv_room (Nat.le_of_ble_eq_true rfl)) dX10_carry_3 ⟨(Nat.le_of_ble_eq_true rfl), (Nat.le_of_ble_eq_true rfl)⟩) (fun r_1 hr_1 => ?_)
  obtain rfl : r_1 = 0 := hr_1
  refine lv_if_eq (tgt := 33) hx hb dX10_carry_6 (by decide) (fun _ => ?_) (fun h9 => absurd h9 (by decide))
  refine lv_iconst (v := (-1)) hx hb dX10_carry_33 (by decide) ?_
  exact W.iret (v := (-1)) hx hb hr (fun t ht hW => ⟨(-1), rfl, rfl, ht⟩) (fun _ h9 => absurd h9 List.not_mem_nil) dX10_carry_34
set_option maxHeartbeats 4000000 in
set_option maxRecDepth 100000 in
theorem c_X10_gate (l : Launch) (G : va_G) (k : Nat → ClassId) (sa : Nat → Nat) (h0 : Nat) (v : Nat → Nat) (w : Nat → Nat) (a : Int32) : Met l yX10_gate vs_c_X10_gate ({ frames := 2, cells := 0, slots := 0, locals := 43 } : Room) (gR G k sa [.ref h0, .int a] [(h0, .inr (10, [.ref (v 0), .ref (v 1), .ref (v 2), .ref (v 3), .ref (v 4), .int 0, .ref (v 5), .ref (v 6), .ref (v 7), .ref (v 8), .ref (v 9), .ref (v 10), .ref (v 11), .ref (v 12), .ref (v 13), .int 0])), (v 5, .inr (9, [.ref (w 0), .ref (w 1), .ref (w 2), .ref (w 3), .ref (w 4), .int 0, .int 0, .int (-1), .int 0])), (w 0, .inr (0, [.int 0, .int 0, .ref (w 5), .ref (w 6), .ref (w 7), .ref (w 8)]))]) (vp_Si (fun r => r = (-1))) 0 0 (fun _ => False) := by
  refine gz_metR (cc := cX10_gate) (maxL := 2) (ret := (some .int)) (by decide) rfl (Nat.le_of_ble_eq_true rfl) ?_
  intro p_ e_ s_ m below_ meth_ c_ ls hx hb hr hml hts hown hlocks hP hE hl
  have hl : lv_has ls 2 [(0, .ref h0), (1, .int a)] := hl
  refine lv_aload_n hx hb dX10_gate_0 rfl (lv_at hl 0 rfl) ?_
  refine lv_iload_n hx hb dX10_gate_1 rfl (lv_at hl 1 rfl) ?_
  refine vp_callSi (W.runV (As := [.int a]) (rest := []) ⟨hx, hb, hml, hown, hts⟩ (c_X10_isCell l G k sa h0 v w a) (cwV 1 hts g_c_X10_gate_171_c_X10_isCell rfl rfl rfl (by decide +kernel) ⟨(Nat.le_of_ble_eq_true rfl), (Nat.le_of_ble_eq_true rfl)⟩) ⟨gR.bl, va_recv hE.K hP (ci := 10) (q0 := 0) rfl rfl, (gR.pre (wc := [(h0, .inr (10, [.ref (v 0), .ref (v 1), .ref (v 2), .ref (v 3), .ref (v 4), .int 0, .ref (v 5), .ref (v 6), .ref (v 7), .ref (v 8), .ref (v 9), .ref (v 10), .ref (v 11), .ref (v 12), .ref (v 13), .int 0])), (v 5, .inr (9, [.ref (w 0), .ref (w 1), .ref (w 2), .ref (w 3), .ref (w 4), .int 0, .int 0, .int (-1), .int 0])), (w 0, .inr (0, [.int 0, .int 0, .ref (w 5), .ref (w 6), .ref (w 7), .ref (w 8)]))]) hE hP [0, 1, 2] rfl)⟩ rfl rfl hl.1 rfl (lv_room (Nat.le_of_ble_eq_true rfl)) dX10_gate_2 ⟨(Nat.le_of_ble_eq_true rfl), (Nat.le_of_ble_eq_true rfl)⟩) (fun r_1 hr_1 => ?_)
  obtain rfl : r_1 = 0 := hr_1
  refine lv_if_ne (tgt := 10) hx hb dX10_gate_5 (by decide) (fun h9 => absurd h9 (by decide)) (fun _ => ?_)
  refine lv_iconst (v := (-1)) hx hb dX10_gate_8 (by decide) ?_
  exact W.iret (v := (-1)) hx hb hr (fun t ht hW => ⟨(-1), rfl, rfl, ht⟩) (fun _ h9 => absurd h9 List.not_mem_nil) dX10_gate_9
set_option maxHeartbeats 4000000 in
set_option maxRecDepth 100000 in
theorem c_X10_undo (l : Launch) (G : va_G) (k : Nat → ClassId) (sa : Nat → Nat) (h0 : Nat) (v : Nat → Nat) (w : Nat → Nat) : Met l yX10_undo vs_c_X10_undo ({ frames := 1, cells := 0, slots := 0, locals := 21 } : Room) (gR G k sa [.ref h0] [(h0, .inr (10, [.ref (v 0), .ref (v 1), .ref (v 2), .ref (v 3), .ref (v 4), .int 0, .ref (v 5), .ref (v 6), .ref (v 7), .ref (v 8), .ref (v 9), .ref (v 10), .ref (v 11), .ref (v 12), .ref (v 13), .int 0])), (v 5, .inr (9, [.ref (w 0), .ref (w 1), .ref (w 2), .ref (w 3), .ref (w 4), .int 0, .int 0, .int (-1), .int 0])), (v 7, .inr (3, [.ref (v 18), .int 0, .int 0]))]) (vp_Si (fun r => r = (-1))) 0 0 (fun _ => False) := by
  refine gz_metR (cc := cX10_undo) (maxL := 1) (ret := (some .int)) (by decide) rfl (Nat.le_of_ble_eq_true rfl) ?_
  intro p_ e_ s_ m below_ meth_ c_ ls hx hb hr hml hts hown hlocks hP hE hl
  have hl : lv_has ls 1 [(0, .ref h0)] := hl
  refine lv_aload_n hx hb dX10_undo_0 rfl (lv_at hl 0 rfl) ?_
  refine va_get (D := G) (ci := 10) (v := .ref (v 7)) (C := RX10) (T := TX10) (N := 16) hx hb hts j_c_X10_undo_10 hown hE.K hP 0 rfl rfl 8 (by decide) (hts (.fieldLink RX10 63 "GossamerGate" "history" "LGossamerGate$History;") (List.mem_cons_of_mem _ (List.mem_append_left _ (List.mem_of_getElem? (i := 0) rfl)))) (fun _ h9 => h9) rfl dX10_undo_1 ?_
  refine lv_aload_n hx hb dX10_undo_4 rfl (lv_at hl 0 rfl) ?_
  refine va_get (D := G) (ci := 10) (v := .ref (v 5)) (C := RX10) (T := TX10) (N := 16) hx hb hts j_c_X10_undo_10 hown hE.K hP 0 rfl rfl 6 (by decide) (hts (.fieldLink RX10 52 "GossamerGate" "world" "LGossamerGate$World;") (List.mem_cons_of_mem _ (List.mem_append_left _ (List.mem_of_getElem? (i := 1) rfl)))) (fun _ h9 => h9) rfl dX10_undo_5 ?_
  refine va_get (D := G) (ci := 9) (v := .ref (w 1)) (C := RX9) (T := TX9) (N := 9) hx hb hts j_c_X10_undo_9 hown hE.K hP 1 rfl rfl 1 (by decide) (hts (.fieldLink RX10 124 "GossamerGate$World" "day" "LGossamerGate$Day;") (List.mem_cons_of_mem _ (List.mem_append_left _ (List.mem_of_getElem? (i := 2) rfl)))) (fun _ h9 => h9) rfl dX10_undo_8 ?_
  refine vp_callSi (W.runV (As := [.ref (w 1)]) (rest := []) ⟨hx, hb, hml, hown, hts⟩ (c_X3_restoreLast l G k sa v (w 1)) (cwV 1 hts g_c_X10_undo_244_c_X3_restoreLast rfl rfl rfl (by decide +kernel) ⟨(Nat.le_of_ble_eq_true rfl), (Nat.le_of_ble_eq_true rfl)⟩) ⟨gR.bl, va_recv hE.K hP (ci := 3) (q0 := 2) rfl rfl, (gR.pre (wc := [(v 7, .inr (3, [.ref (v 18), .int 0, .int 0]))]) hE hP [2] rfl)⟩ rfl rfl hl.1 rfl (lv_room (Nat.le_of_ble_eq_true rfl)) dX10_undo_11 ⟨(Nat.le_of_ble_eq_true rfl), (Nat.le_of_ble_eq_true rfl)⟩) (fun r_1 hr_1 => ?_)
  obtain rfl : r_1 = 0 := hr_1
  refine lv_if_ne (tgt := 19) hx hb dX10_undo_14 (by decide) (fun h9 => absurd h9 (by decide)) (fun _ => ?_)
  refine lv_iconst (v := (-1)) hx hb dX10_undo_17 (by decide) ?_
  exact W.iret (v := (-1)) hx hb hr (fun t ht hW => ⟨(-1), rfl, rfl, ht⟩) (fun _ h9 => absurd h9 List.not_mem_nil) dX10_undo_18
set_option maxHeartbeats 4000000 in
set_option maxRecDepth 100000 in
theorem c_X10_ahead (l : Launch) (G : va_G) (k : Nat → ClassId) (sa : Nat → Nat) (h0 : Nat) (v : Nat → Nat) (w : Nat → Nat) (a : Int32) (b : Int32) (c : Int32) : Met l yX10_ahead vs_c_X10_ahead ({ frames := 2, cells := 0, slots := 0, locals := 43 } : Room) (gR G k sa [.ref h0, .int a, .int b, .int c] [(h0, .inr (10, [.ref (v 0), .ref (v 1), .ref (v 2), .ref (v 3), .ref (v 4), .int 0, .ref (v 5), .ref (v 6), .ref (v 7), .ref (v 8), .ref (v 9), .ref (v 10), .ref (v 11), .ref (v 12), .ref (v 13), .int 0])), (v 5, .inr (9, [.ref (w 0), .ref (w 1), .ref (w 2), .ref (w 3), .ref (w 4), .int 0, .int 0, .int (-1), .int 0])), (w 1, .inr (2, [.int 0, .int 0, .long 0, .ref (w 13), .ref (w 14), .ref (w 15), .ref (w 16)]))]) (vp_Si (fun r => r = (-2))) 0 0 (fun _ => False) := by
  refine gz_metR (cc := cX10_ahead) (maxL := 4) (ret := (some .int)) (by decide) rfl (Nat.le_of_ble_eq_true rfl) ?_
  intro p_ e_ s_ m below_ meth_ c_ ls hx hb hr hml hts hown hlocks hP hE hl
  have hl : lv_has ls 4 [(0, .ref h0), (1, .int a), (2, .int b), (3, .int c)] := hl
  refine lv_aload_n hx hb dX10_ahead_0 rfl (lv_at hl 0 rfl) ?_
  refine lv_iload_n hx hb dX10_ahead_1 rfl (lv_at hl 1 rfl) ?_
  refine vp_callSi (W.runV (As := [.int a]) (rest := []) ⟨hx, hb, hml, hown, hts⟩ (c_X10_isPerson l G k sa h0 v w a) (cwV 1 hts g_c_X10_ahead_139_c_X10_isPerson rfl rfl rfl (by decide +kernel) ⟨(Nat.le_of_ble_eq_true rfl), (Nat.le_of_ble_eq_true rfl)⟩) ⟨gR.bl, va_recv hE.K hP (ci := 10) (q0 := 0) rfl rfl, (gR.pre (wc := [(h0, .inr (10, [.ref (v 0), .ref (v 1), .ref (v 2), .ref (v 3), .ref (v 4), .int 0, .ref (v 5), .ref (v 6), .ref (v 7), .ref (v 8), .ref (v 9), .ref (v 10), .ref (v 11), .ref (v 12), .ref (v 13), .int 0])), (v 5, .inr (9, [.ref (w 0), .ref (w 1), .ref (w 2), .ref (w 3), .ref (w 4), .int 0, .int 0, .int (-1), .int 0])), (w 1, .inr (2, [.int 0, .int 0, .long 0, .ref (w 13), .ref (w 14), .ref (w 15), .ref (w 16)]))]) hE hP [0, 1, 2] rfl)⟩ rfl rfl hl.1 rfl (lv_room (Nat.le_of_ble_eq_true rfl)) dX10_ahead_2 ⟨(Nat.le_of_ble_eq_true rfl), (Nat.le_of_ble_eq_true rfl)⟩) (fun r_1 hr_1 => ?_)
  obtain rfl : r_1 = 0 := hr_1
  refine lv_if_eq (tgt := 27) hx hb dX10_ahead_5 (by decide) (fun _ => ?_) (fun h9 => absurd h9 (by decide))
  refine lv_bipush (v := (-2)) hx hb dX10_ahead_27 (by decide) ?_
  exact W.iret (v := (-2)) hx hb hr (fun t ht hW => ⟨(-2), rfl, rfl, ht⟩) (fun _ h9 => absurd h9 List.not_mem_nil) dX10_ahead_29
set_option maxHeartbeats 4000000 in
set_option maxRecDepth 100000 in
theorem c_X10_goes (l : Launch) (G : va_G) (k : Nat → ClassId) (sa : Nat → Nat) (h0 : Nat) (v : Nat → Nat) (w : Nat → Nat) (a : Int32) : Met l yX10_goes vs_c_X10_goes ({ frames := 2, cells := 0, slots := 0, locals := 43 } : Room) (gR G k sa [.ref h0, .int a] [(h0, .inr (10, [.ref (v 0), .ref (v 1), .ref (v 2), .ref (v 3), .ref (v 4), .int 0, .ref (v 5), .ref (v 6), .ref (v 7), .ref (v 8), .ref (v 9), .ref (v 10), .ref (v 11), .ref (v 12), .ref (v 13), .int 0])), (v 5, .inr (9, [.ref (w 0), .ref (w 1), .ref (w 2), .ref (w 3), .ref (w 4), .int 0, .int 0, .int (-1), .int 0])), (w 1, .inr (2, [.int 0, .int 0, .long 0, .ref (w 13), .ref (w 14), .ref (w 15), .ref (w 16)]))]) (vp_Si (fun r => r = (-1))) 0 0 (fun _ => False) := by
  refine gz_metR (cc := cX10_goes) (maxL := 4) (ret := (some .int)) (by decide) rfl (Nat.le_of_ble_eq_true rfl) ?_
  intro p_ e_ s_ m below_ meth_ c_ ls hx hb hr hml hts hown hlocks hP hE hl
  have hl : lv_has ls 4 [(0, .ref h0), (1, .int a)] := hl
  refine lv_aload_n hx hb dX10_goes_0 rfl (lv_at hl 0 rfl) ?_
  refine lv_iload_n hx hb dX10_goes_1 rfl (lv_at hl 1 rfl) ?_
  refine vp_callSi (W.runV (As := [.int a]) (rest := []) ⟨hx, hb, hml, hown, hts⟩ (c_X10_isPerson l G k sa h0 v w a) (cwV 1 hts g_c_X10_goes_139_c_X10_isPerson rfl rfl rfl (by decide +kernel) ⟨(Nat.le_of_ble_eq_true rfl), (Nat.le_of_ble_eq_true rfl)⟩) ⟨gR.bl, va_recv hE.K hP (ci := 10) (q0 := 0) rfl rfl, (gR.pre (wc := [(h0, .inr (10, [.ref (v 0), .ref (v 1), .ref (v 2), .ref (v 3), .ref (v 4), .int 0, .ref (v 5), .ref (v 6), .ref (v 7), .ref (v 8), .ref (v 9), .ref (v 10), .ref (v 11), .ref (v 12), .ref (v 13), .int 0])), (v 5, .inr (9, [.ref (w 0), .ref (w 1), .ref (w 2), .ref (w 3), .ref (w 4), .int 0, .int 0, .int (-1), .int 0])), (w 1, .inr (2, [.int 0, .int 0, .long 0, .ref (w 13), .ref (w 14), .ref (w 15), .ref (w 16)]))]) hE hP [0, 1, 2] rfl)⟩ rfl rfl hl.1 rfl (lv_room (Nat.le_of_ble_eq_true rfl)) dX10_goes_2 ⟨(Nat.le_of_ble_eq_true rfl), (Nat.le_of_ble_eq_true rfl)⟩) (fun r_1 hr_1 => ?_)
  obtain rfl : r_1 = 0 := hr_1
  refine lv_if_ne (tgt := 10) hx hb dX10_goes_5 (by decide) (fun h9 => absurd h9 (by decide)) (fun _ => ?_)
  refine lv_iconst (v := (-1)) hx hb dX10_goes_8 (by decide) ?_
  exact W.iret (v := (-1)) hx hb hr (fun t ht hW => ⟨(-1), rfl, rfl, ht⟩) (fun _ h9 => absurd h9 List.not_mem_nil) dX10_goes_9
set_option maxHeartbeats 4000000 in
set_option maxRecDepth 100000 in
theorem c_X10_down (l : Launch) (G : va_G) (k : Nat → ClassId) (sa : Nat → Nat) (h0 : Nat) (v : Nat → Nat) (w : Nat → Nat) (a : Int32) (b : Int32) : Met l yX10_down vs_c_X10_down ({ frames := 3, cells := 0, slots := 0, locals := 65 } : Room) (gR G k sa [.ref h0, .int a, .int b] [(h0, .inr (10, [.ref (v 0), .ref (v 1), .ref (v 2), .ref (v 3), .ref (v 4), .int 0, .ref (v 5), .ref (v 6), .ref (v 7), .ref (v 8), .ref (v 9), .ref (v 10), .ref (v 11), .ref (v 12), .ref (v 13), .int 0])), (v 5, .inr (9, [.ref (w 0), .ref (w 1), .ref (w 2), .ref (w 3), .ref (w 4), .int 0, .int 0, .int (-1), .int 0])), (w 1, .inr (2, [.int 0, .int 0, .long 0, .ref (w 13), .ref (w 14), .ref (w 15), .ref (w 16)]))]) (vp_Si (fun r => r = (-3))) 0 0 (fun _ => False) := by
  refine gz_metR (cc := cX10_down) (maxL := 4) (ret := (some .int)) (by decide) rfl (Nat.le_of_ble_eq_true rfl) ?_
  intro p_ e_ s_ m below_ meth_ c_ ls hx hb hr hml hts hown hlocks hP hE hl
  have hl : lv_has ls 4 [(0, .ref h0), (1, .int a), (2, .int b)] := hl
  refine lv_aload_n hx hb dX10_down_0 rfl (lv_at hl 0 rfl) ?_
  refine lv_iload_n hx hb dX10_down_1 rfl (lv_at hl 1 rfl) ?_
  refine lv_iconst (v := 1) hx hb dX10_down_2 (by decide) ?_
  refine vp_callSi (W.runV (As := [.int a, .int 1]) (rest := []) ⟨hx, hb, hml, hown, hts⟩ (c_X10_isOn l G k sa h0 v w a 1) (cwV 2 hts g_c_X10_down_237_c_X10_isOn rfl rfl rfl (by decide +kernel) ⟨(Nat.le_of_ble_eq_true rfl), (Nat.le_of_ble_eq_true rfl)⟩) ⟨gR.bl, va_recv hE.K hP (ci := 10) (q0 := 0) rfl rfl, (gR.pre (wc := [(h0, .inr (10, [.ref (v 0), .ref (v 1), .ref (v 2), .ref (v 3), .ref (v 4), .int 0, .ref (v 5), .ref (v 6), .ref (v 7), .ref (v 8), .ref (v 9), .ref (v 10), .ref (v 11), .ref (v 12), .ref (v 13), .int 0])), (v 5, .inr (9, [.ref (w 0), .ref (w 1), .ref (w 2), .ref (w 3), .ref (w 4), .int 0, .int 0, .int (-1), .int 0])), (w 1, .inr (2, [.int 0, .int 0, .long 0, .ref (w 13), .ref (w 14), .ref (w 15), .ref (w 16)]))]) hE hP [0, 1, 2] rfl)⟩ rfl rfl hl.1 rfl (lv_room (Nat.le_of_ble_eq_true rfl)) dX10_down_3 ⟨(Nat.le_of_ble_eq_true rfl), (Nat.le_of_ble_eq_true rfl)⟩) (fun r_1 hr_1 => ?_)
  obtain rfl : r_1 = 0 := hr_1
  refine lv_if_eq (tgt := 18) hx hb dX10_down_6 (by decide) (fun _ => ?_) (fun h9 => absurd h9 (by decide))
  refine lv_bipush (v := (-3)) hx hb dX10_down_18 (by decide) ?_
  exact W.iret (v := (-3)) hx hb hr (fun t ht hW => ⟨(-3), rfl, rfl, ht⟩) (fun _ h9 => absurd h9 List.not_mem_nil) dX10_down_20
set_option maxHeartbeats 4000000 in
set_option maxRecDepth 100000 in
theorem c_X10_gone (l : Launch) (G : va_G) (k : Nat → ClassId) (sa : Nat → Nat) (h0 : Nat) (v : Nat → Nat) (w : Nat → Nat) (a : Int32) (b : Int32) (c : Int32) : Met l yX10_gone vs_c_X10_gone ({ frames := 3, cells := 0, slots := 0, locals := 65 } : Room) (gR G k sa [.ref h0, .int a, .int b, .int c] [(h0, .inr (10, [.ref (v 0), .ref (v 1), .ref (v 2), .ref (v 3), .ref (v 4), .int 0, .ref (v 5), .ref (v 6), .ref (v 7), .ref (v 8), .ref (v 9), .ref (v 10), .ref (v 11), .ref (v 12), .ref (v 13), .int 0])), (v 5, .inr (9, [.ref (w 0), .ref (w 1), .ref (w 2), .ref (w 3), .ref (w 4), .int 0, .int 0, .int (-1), .int 0])), (w 1, .inr (2, [.int 0, .int 0, .long 0, .ref (w 13), .ref (w 14), .ref (w 15), .ref (w 16)]))]) (vp_Si (fun r => r = (-3))) 0 0 (fun _ => False) := by
  refine gz_metR (cc := cX10_gone) (maxL := 5) (ret := (some .int)) (by decide) rfl (Nat.le_of_ble_eq_true rfl) ?_
  intro p_ e_ s_ m below_ meth_ c_ ls hx hb hr hml hts hown hlocks hP hE hl
  have hl : lv_has ls 5 [(0, .ref h0), (1, .int a), (2, .int b), (3, .int c)] := hl
  refine lv_aload_n hx hb dX10_gone_0 rfl (lv_at hl 0 rfl) ?_
  refine lv_iload_n hx hb dX10_gone_1 rfl (lv_at hl 1 rfl) ?_
  refine lv_iconst (v := 0) hx hb dX10_gone_2 (by decide) ?_
  refine vp_callSi (W.runV (As := [.int a, .int 0]) (rest := []) ⟨hx, hb, hml, hown, hts⟩ (c_X10_isOn l G k sa h0 v w a 0) (cwV 2 hts g_c_X10_gone_237_c_X10_isOn rfl rfl rfl (by decide +kernel) ⟨(Nat.le_of_ble_eq_true rfl), (Nat.le_of_ble_eq_true rfl)⟩) ⟨gR.bl, va_recv hE.K hP (ci := 10) (q0 := 0) rfl rfl, (gR.pre (wc := [(h0, .inr (10, [.ref (v 0), .ref (v 1), .ref (v 2), .ref (v 3), .ref (v 4), .int 0, .ref (v 5), .ref (v 6), .ref (v 7), .ref (v 8), .ref (v 9), .ref (v 10), .ref (v 11), .ref (v 12), .ref (v 13), .int 0])), (v 5, .inr (9, [.ref (w 0), .ref (w 1), .ref (w 2), .ref (w 3), .ref (w 4), .int 0, .int 0, .int (-1), .int 0])), (w 1, .inr (2, [.int 0, .int 0, .long 0, .ref (w 13), .ref (w 14), .ref (w 15), .ref (w 16)]))]) hE hP [0, 1, 2] rfl)⟩ rfl rfl hl.1 rfl (lv_room (Nat.le_of_ble_eq_true rfl)) dX10_gone_3 ⟨(Nat.le_of_ble_eq_true rfl), (Nat.le_of_ble_eq_true rfl)⟩) (fun r_1 hr_1 => ?_)
  obtain rfl : r_1 = 0 := hr_1
  refine lv_if_eq (tgt := 28) hx hb dX10_gone_6 (by decide) (fun _ => ?_) (fun h9 => absurd h9 (by decide))
  refine lv_bipush (v := (-3)) hx hb dX10_gone_28 (by decide) ?_
  exact W.iret (v := (-3)) hx hb hr (fun t ht hW => ⟨(-3), rfl, rfl, ht⟩) (fun _ h9 => absurd h9 List.not_mem_nil) dX10_gone_30
set_option maxHeartbeats 4000000 in
set_option maxRecDepth 100000 in
theorem c_X10_timing (l : Launch) (G : va_G) (k : Nat → ClassId) (sa : Nat → Nat) (h0 : Nat) (v : Nat → Nat) (w : Nat → Nat) (a : Int32) (b : Int32) : Met l yX10_timing vs_c_X10_timing ({ frames := 3, cells := 0, slots := 0, locals := 65 } : Room) (gR G k sa [.ref h0, .int a, .int b] [(h0, .inr (10, [.ref (v 0), .ref (v 1), .ref (v 2), .ref (v 3), .ref (v 4), .int 0, .ref (v 5), .ref (v 6), .ref (v 7), .ref (v 8), .ref (v 9), .ref (v 10), .ref (v 11), .ref (v 12), .ref (v 13), .int 0])), (v 5, .inr (9, [.ref (w 0), .ref (w 1), .ref (w 2), .ref (w 3), .ref (w 4), .int 0, .int 0, .int (-1), .int 0])), (w 1, .inr (2, [.int 0, .int 0, .long 0, .ref (w 13), .ref (w 14), .ref (w 15), .ref (w 16)]))]) (vp_Si (fun r => r = (-1))) 0 0 (fun _ => False) := by
  refine gz_metR (cc := cX10_timing) (maxL := 4) (ret := (some .int)) (by decide) rfl (Nat.le_of_ble_eq_true rfl) ?_
  intro p_ e_ s_ m below_ meth_ c_ ls hx hb hr hml hts hown hlocks hP hE hl
  have hl : lv_has ls 4 [(0, .ref h0), (1, .int a), (2, .int b)] := hl
  refine lv_aload_n hx hb dX10_timing_0 rfl (lv_at hl 0 rfl) ?_
  refine lv_iload_n hx hb dX10_timing_1 rfl (lv_at hl 1 rfl) ?_
  refine lv_iconst (v := 0) hx hb dX10_timing_2 (by decide) ?_
  refine vp_callSi (W.runV (As := [.int a, .int 0]) (rest := []) ⟨hx, hb, hml, hown, hts⟩ (c_X10_isOn l G k sa h0 v w a 0) (cwV 2 hts g_c_X10_timing_237_c_X10_isOn rfl rfl rfl (by decide +kernel) ⟨(Nat.le_of_ble_eq_true rfl), (Nat.le_of_ble_eq_true rfl)⟩) ⟨gR.bl, va_recv hE.K hP (ci := 10) (q0 := 0) rfl rfl, (gR.pre (wc := [(h0, .inr (10, [.ref (v 0), .ref (v 1), .ref (v 2), .ref (v 3), .ref (v 4), .int 0, .ref (v 5), .ref (v 6), .ref (v 7), .ref (v 8), .ref (v 9), .ref (v 10), .ref (v 11), .ref (v 12), .ref (v 13), .int 0])), (v 5, .inr (9, [.ref (w 0), .ref (w 1), .ref (w 2), .ref (w 3), .ref (w 4), .int 0, .int 0, .int (-1), .int 0])), (w 1, .inr (2, [.int 0, .int 0, .long 0, .ref (w 13), .ref (w 14), .ref (w 15), .ref (w 16)]))]) hE hP [0, 1, 2] rfl)⟩ rfl rfl hl.1 rfl (lv_room (Nat.le_of_ble_eq_true rfl)) dX10_timing_3 ⟨(Nat.le_of_ble_eq_true rfl), (Nat.le_of_ble_eq_true rfl)⟩) (fun r_1 hr_1 => ?_)
  obtain rfl : r_1 = 0 := hr_1
  refine lv_if_eq (tgt := 17) hx hb dX10_timing_6 (by decide) (fun _ => ?_) (fun h9 => absurd h9 (by decide))
  refine lv_iconst (v := (-1)) hx hb dX10_timing_17 (by decide) ?_
  exact W.iret (v := (-1)) hx hb hr (fun t ht hW => ⟨(-1), rfl, rfl, ht⟩) (fun _ h9 => absurd h9 List.not_mem_nil) dX10_timing_18
set_option maxHeartbeats 4000000 in
set_option maxRecDepth 100000 in
theorem c_X10_had (l : Launch) (G : va_G) (k : Nat → ClassId) (sa : Nat → Nat) (h0 : Nat) (v : Nat → Nat) (w : Nat → Nat) (a : Int32) (b : Int32) (c : Int32) : Met l yX10_had vs_c_X10_had ({ frames := 3, cells := 0, slots := 0, locals := 65 } : Room) (gR G k sa [.ref h0, .int a, .int b, .int c] [(h0, .inr (10, [.ref (v 0), .ref (v 1), .ref (v 2), .ref (v 3), .ref (v 4), .int 0, .ref (v 5), .ref (v 6), .ref (v 7), .ref (v 8), .ref (v 9), .ref (v 10), .ref (v 11), .ref (v 12), .ref (v 13), .int 0])), (v 5, .inr (9, [.ref (w 0), .ref (w 1), .ref (w 2), .ref (w 3), .ref (w 4), .int 0, .int 0, .int (-1), .int 0])), (w 1, .inr (2, [.int 0, .int 0, .long 0, .ref (w 13), .ref (w 14), .ref (w 15), .ref (w 16)]))]) (vp_Si (fun r => r = (-1))) 0 0 (fun _ => False) := by
  refine gz_metR (cc := cX10_had) (maxL := 7) (ret := (some .int)) (by decide) rfl (Nat.le_of_ble_eq_true rfl) ?_
  intro p_ e_ s_ m below_ meth_ c_ ls hx hb hr hml hts hown hlocks hP hE hl
  have hl : lv_has ls 7 [(0, .ref h0), (1, .int a), (2, .int b), (3, .int c)] := hl
  refine lv_aload_n hx hb dX10_had_0 rfl (lv_at hl 0 rfl) ?_
  refine lv_iload_n hx hb dX10_had_1 rfl (lv_at hl 1 rfl) ?_
  refine lv_iconst (v := 0) hx hb dX10_had_2 (by decide) ?_
  refine vp_callSi (W.runV (As := [.int a, .int 0]) (rest := []) ⟨hx, hb, hml, hown, hts⟩ (c_X10_isOn l G k sa h0 v w a 0) (cwV 2 hts g_c_X10_had_237_c_X10_isOn rfl rfl rfl (by decide +kernel) ⟨(Nat.le_of_ble_eq_true rfl), (Nat.le_of_ble_eq_true rfl)⟩) ⟨gR.bl, va_recv hE.K hP (ci := 10) (q0 := 0) rfl rfl, (gR.pre (wc := [(h0, .inr (10, [.ref (v 0), .ref (v 1), .ref (v 2), .ref (v 3), .ref (v 4), .int 0, .ref (v 5), .ref (v 6), .ref (v 7), .ref (v 8), .ref (v 9), .ref (v 10), .ref (v 11), .ref (v 12), .ref (v 13), .int 0])), (v 5, .inr (9, [.ref (w 0), .ref (w 1), .ref (w 2), .ref (w 3), .ref (w 4), .int 0, .int 0, .int (-1), .int 0])), (w 1, .inr (2, [.int 0, .int 0, .long 0, .ref (w 13), .ref (w 14), .ref (w 15), .ref (w 16)]))]) hE hP [0, 1, 2] rfl)⟩ rfl rfl hl.1 rfl (lv_room (Nat.le_of_ble_eq_true rfl)) dX10_had_3 ⟨(Nat.le_of_ble_eq_true rfl), (Nat.le_of_ble_eq_true rfl)⟩) (fun r_1 hr_1 => ?_)
  obtain rfl : r_1 = 0 := hr_1
  refine lv_if_eq (tgt := 26) hx hb dX10_had_6 (by decide) (fun _ => ?_) (fun h9 => absurd h9 (by decide))
  refine lv_iconst (v := (-1)) hx hb dX10_had_26 (by decide) ?_
  exact W.iret (v := (-1)) hx hb hr (fun t ht hW => ⟨(-1), rfl, rfl, ht⟩) (fun _ h9 => absurd h9 List.not_mem_nil) dX10_had_27
set_option maxHeartbeats 4000000 in
set_option maxRecDepth 100000 in
theorem c_X10_tangle (l : Launch) (G : va_G) (k : Nat → ClassId) (sa : Nat → Nat) (h0 : Nat) (v : Nat → Nat) (w : Nat → Nat) (a : Int32) : Met l yX10_tangle vs_c_X10_tangle ({ frames := 1, cells := 0, slots := 0, locals := 20 } : Room) (gR G k sa [.ref h0, .int a] [(h0, .inr (10, [.ref (v 0), .ref (v 1), .ref (v 2), .ref (v 3), .ref (v 4), .int 0, .ref (v 5), .ref (v 6), .ref (v 7), .ref (v 8), .ref (v 9), .ref (v 10), .ref (v 11), .ref (v 12), .ref (v 13), .int 0])), (v 5, .inr (9, [.ref (w 0), .ref (w 1), .ref (w 2), .ref (w 3), .ref (w 4), .int 0, .int 0, .int (-1), .int 0])), (w 0, .inr (0, [.int 0, .int 0, .ref (w 5), .ref (w 6), .ref (w 7), .ref (w 8)]))]) (vp_Si (fun r => r = (-1))) 0 0 (fun _ => False) := by
  refine gz_metR (cc := cX10_tangle) (maxL := 3) (ret := (some .int)) (by decide) rfl (Nat.le_of_ble_eq_true rfl) ?_
  intro p_ e_ s_ m below_ meth_ c_ ls hx hb hr hml hts hown hlocks hP hE hl
  have hl : lv_has ls 3 [(0, .ref h0), (1, .int a)] := hl
  refine lv_aload_n hx hb dX10_tangle_0 rfl (lv_at hl 0 rfl) ?_
  refine vp_callSi (W.runV (As := []) (rest := []) ⟨hx, hb, hml, hown, hts⟩ (c_X10_isTold l G k sa h0 v w) (cwV 0 hts g_c_X10_tangle_158_c_X10_isTold rfl rfl rfl (by decide +kernel) ⟨(Nat.le_of_ble_eq_true rfl), (Nat.le_of_ble_eq_true rfl)⟩) ⟨gR.bl, va_recv hE.K hP (ci := 10) (q0 := 0) rfl rfl, (gR.pre (wc := [(h0, .inr (10, [.ref (v 0), .ref (v 1), .ref (v 2), .ref (v 3), .ref (v 4), .int 0, .ref (v 5), .ref (v 6), .ref (v 7), .ref (v 8), .ref (v 9), .ref (v 10), .ref (v 11), .ref (v 12), .ref (v 13), .int 0])), (v 5, .inr (9, [.ref (w 0), .ref (w 1), .ref (w 2), .ref (w 3), .ref (w 4), .int 0, .int 0, .int (-1), .int 0])), (w 0, .inr (0, [.int 0, .int 0, .ref (w 5), .ref (w 6), .ref (w 7), .ref (w 8)]))]) hE hP [0, 1, 2] rfl)⟩ rfl rfl hl.1 rfl (lv_room (Nat.le_of_ble_eq_true rfl)) dX10_tangle_1 ⟨(Nat.le_of_ble_eq_true rfl), (Nat.le_of_ble_eq_true rfl)⟩) (fun r_1 hr_1 => ?_)
  obtain rfl : r_1 = 0 := hr_1
  refine lv_if_eq (tgt := 16) hx hb dX10_tangle_4 (by decide) (fun _ => ?_) (fun h9 => absurd h9 (by decide))
  refine lv_iconst (v := (-1)) hx hb dX10_tangle_16 (by decide) ?_
  exact W.iret (v := (-1)) hx hb hr (fun t ht hW => ⟨(-1), rfl, rfl, ht⟩) (fun _ h9 => absurd h9 List.not_mem_nil) dX10_tangle_17
set_option maxHeartbeats 4000000 in
set_option maxRecDepth 100000 in
theorem c_X10_ring (l : Launch) (G : va_G) (k : Nat → ClassId) (sa : Nat → Nat) (h0 : Nat) (v : Nat → Nat) (w : Nat → Nat) (a : Int32) : Met l yX10_ring vs_c_X10_ring ({ frames := 1, cells := 0, slots := 0, locals := 20 } : Room) (gR G k sa [.ref h0, .int a] [(h0, .inr (10, [.ref (v 0), .ref (v 1), .ref (v 2), .ref (v 3), .ref (v 4), .int 0, .ref (v 5), .ref (v 6), .ref (v 7), .ref (v 8), .ref (v 9), .ref (v 10), .ref (v 11), .ref (v 12), .ref (v 13), .int 0])), (v 5, .inr (9, [.ref (w 0), .ref (w 1), .ref (w 2), .ref (w 3), .ref (w 4), .int 0, .int 0, .int (-1), .int 0])), (w 0, .inr (0, [.int 0, .int 0, .ref (w 5), .ref (w 6), .ref (w 7), .ref (w 8)]))]) (vp_Si (fun r => r = (-1))) 0 0 (fun _ => False) := by
  refine gz_metR (cc := cX10_ring) (maxL := 5) (ret := (some .int)) (by decide) rfl (Nat.le_of_ble_eq_true rfl) ?_
  intro p_ e_ s_ m below_ meth_ c_ ls hx hb hr hml hts hown hlocks hP hE hl
  have hl : lv_has ls 5 [(0, .ref h0), (1, .int a)] := hl
  refine lv_aload_n hx hb dX10_ring_0 rfl (lv_at hl 0 rfl) ?_
  refine vp_callSi (W.runV (As := []) (rest := []) ⟨hx, hb, hml, hown, hts⟩ (c_X10_isTold l G k sa h0 v w) (cwV 0 hts g_c_X10_ring_158_c_X10_isTold rfl rfl rfl (by decide +kernel) ⟨(Nat.le_of_ble_eq_true rfl), (Nat.le_of_ble_eq_true rfl)⟩) ⟨gR.bl, va_recv hE.K hP (ci := 10) (q0 := 0) rfl rfl, (gR.pre (wc := [(h0, .inr (10, [.ref (v 0), .ref (v 1), .ref (v 2), .ref (v 3), .ref (v 4), .int 0, .ref (v 5), .ref (v 6), .ref (v 7), .ref (v 8), .ref (v 9), .ref (v 10), .ref (v 11), .ref (v 12), .ref (v 13), .int 0])), (v 5, .inr (9, [.ref (w 0), .ref (w 1), .ref (w 2), .ref (w 3), .ref (w 4), .int 0, .int 0, .int (-1), .int 0])), (w 0, .inr (0, [.int 0, .int 0, .ref (w 5), .ref (w 6), .ref (w 7), .ref (w 8)]))]) hE hP [0, 1, 2] rfl)⟩ rfl rfl hl.1 rfl (lv_room (Nat.le_of_ble_eq_true rfl)) dX10_ring_1 ⟨(Nat.le_of_ble_eq_true rfl), (Nat.le_of_ble_eq_true rfl)⟩) (fun r_1 hr_1 => ?_)
  obtain rfl : r_1 = 0 := hr_1
  refine lv_if_eq (tgt := 16) hx hb dX10_ring_4 (by decide) (fun _ => ?_) (fun h9 => absurd h9 (by decide))
  refine lv_iconst (v := (-1)) hx hb dX10_ring_16 (by decide) ?_
  exact W.iret (v := (-1)) hx hb hr (fun t ht hW => ⟨(-1), rfl, rfl, ht⟩) (fun _ h9 => absurd h9 List.not_mem_nil) dX10_ring_17
set_option maxHeartbeats 4000000 in
set_option maxRecDepth 100000 in
theorem c_X10_flock (l : Launch) (G : va_G) (k : Nat → ClassId) (sa : Nat → Nat) (h0 : Nat) (v : Nat → Nat) (w : Nat → Nat) (a : Int32) (b : Int32) : Met l yX10_flock vs_c_X10_flock ({ frames := 1, cells := 0, slots := 0, locals := 20 } : Room) (gR G k sa [.ref h0, .int a, .int b] [(h0, .inr (10, [.ref (v 0), .ref (v 1), .ref (v 2), .ref (v 3), .ref (v 4), .int 0, .ref (v 5), .ref (v 6), .ref (v 7), .ref (v 8), .ref (v 9), .ref (v 10), .ref (v 11), .ref (v 12), .ref (v 13), .int 0])), (v 5, .inr (9, [.ref (w 0), .ref (w 1), .ref (w 2), .ref (w 3), .ref (w 4), .int 0, .int 0, .int (-1), .int 0])), (w 0, .inr (0, [.int 0, .int 0, .ref (w 5), .ref (w 6), .ref (w 7), .ref (w 8)]))]) (vp_Si (fun r => r = (-1))) 0 0 (fun _ => False) := by
  refine gz_metR (cc := cX10_flock) (maxL := 11) (ret := (some .int)) (by decide) rfl (Nat.le_of_ble_eq_true rfl) ?_
  intro p_ e_ s_ m below_ meth_ c_ ls hx hb hr hml hts hown hlocks hP hE hl
  have hl : lv_has ls 11 [(0, .ref h0), (1, .int a), (2, .int b)] := hl
  refine lv_aload_n hx hb dX10_flock_0 rfl (lv_at hl 0 rfl) ?_
  refine vp_callSi (W.runV (As := []) (rest := []) ⟨hx, hb, hml, hown, hts⟩ (c_X10_isTold l G k sa h0 v w) (cwV 0 hts g_c_X10_flock_158_c_X10_isTold rfl rfl rfl (by decide +kernel) ⟨(Nat.le_of_ble_eq_true rfl), (Nat.le_of_ble_eq_true rfl)⟩) ⟨gR.bl, va_recv hE.K hP (ci := 10) (q0 := 0) rfl rfl, (gR.pre (wc := [(h0, .inr (10, [.ref (v 0), .ref (v 1), .ref (v 2), .ref (v 3), .ref (v 4), .int 0, .ref (v 5), .ref (v 6), .ref (v 7), .ref (v 8), .ref (v 9), .ref (v 10), .ref (v 11), .ref (v 12), .ref (v 13), .int 0])), (v 5, .inr (9, [.ref (w 0), .ref (w 1), .ref (w 2), .ref (w 3), .ref (w 4), .int 0, .int 0, .int (-1), .int 0])), (w 0, .inr (0, [.int 0, .int 0, .ref (w 5), .ref (w 6), .ref (w 7), .ref (w 8)]))]) hE hP [0, 1, 2] rfl)⟩ rfl rfl hl.1 rfl (lv_room (Nat.le_of_ble_eq_true rfl)) dX10_flock_1 ⟨(Nat.le_of_ble_eq_true rfl), (Nat.le_of_ble_eq_true rfl)⟩) (fun r_1 hr_1 => ?_)
  obtain rfl : r_1 = 0 := hr_1
  refine lv_if_eq (tgt := 26) hx hb dX10_flock_4 (by decide) (fun _ => ?_) (fun h9 => absurd h9 (by decide))
  refine lv_iconst (v := (-1)) hx hb dX10_flock_26 (by decide) ?_
  exact W.iret (v := (-1)) hx hb hr (fun t ht hW => ⟨(-1), rfl, rfl, ht⟩) (fun _ h9 => absurd h9 List.not_mem_nil) dX10_flock_27
set_option maxHeartbeats 4000000 in
set_option maxRecDepth 100000 in
theorem c_X10_bestGate (l : Launch) (G : va_G) (k : Nat → ClassId) (sa : Nat → Nat) (h0 : Nat) (v : Nat → Nat) (w : Nat → Nat) (a : Int32) (b : Int32) : Met l yX10_bestGate vs_c_X10_bestGate ({ frames := 1, cells := 0, slots := 0, locals := 20 } : Room) (gR G k sa [.ref h0, .int a, .int b] [(h0, .inr (10, [.ref (v 0), .ref (v 1), .ref (v 2), .ref (v 3), .ref (v 4), .int 0, .ref (v 5), .ref (v 6), .ref (v 7), .ref (v 8), .ref (v 9), .ref (v 10), .ref (v 11), .ref (v 12), .ref (v 13), .int 0])), (v 5, .inr (9, [.ref (w 0), .ref (w 1), .ref (w 2), .ref (w 3), .ref (w 4), .int 0, .int 0, .int (-1), .int 0])), (w 0, .inr (0, [.int 0, .int 0, .ref (w 5), .ref (w 6), .ref (w 7), .ref (w 8)]))]) (vp_Si (fun r => r = (-2))) 0 0 (fun _ => False) := by
  refine gz_metR (cc := cX10_bestGate) (maxL := 7) (ret := (some .int)) (by decide) rfl (Nat.le_of_ble_eq_true rfl) ?_
  intro p_ e_ s_ m below_ meth_ c_ ls hx hb hr hml hts hown hlocks hP hE hl
  have hl : lv_has ls 7 [(0, .ref h0), (1, .int a), (2, .int b)] := hl
  refine lv_aload_n hx hb dX10_bestGate_0 rfl (lv_at hl 0 rfl) ?_
  refine vp_callSi (W.runV (As := []) (rest := []) ⟨hx, hb, hml, hown, hts⟩ (c_X10_isTold l G k sa h0 v w) (cwV 0 hts g_c_X10_bestGate_158_c_X10_isTold rfl rfl rfl (by decide +kernel) ⟨(Nat.le_of_ble_eq_true rfl), (Nat.le_of_ble_eq_true rfl)⟩) ⟨gR.bl, va_recv hE.K hP (ci := 10) (q0 := 0) rfl rfl, (gR.pre (wc := [(h0, .inr (10, [.ref (v 0), .ref (v 1), .ref (v 2), .ref (v 3), .ref (v 4), .int 0, .ref (v 5), .ref (v 6), .ref (v 7), .ref (v 8), .ref (v 9), .ref (v 10), .ref (v 11), .ref (v 12), .ref (v 13), .int 0])), (v 5, .inr (9, [.ref (w 0), .ref (w 1), .ref (w 2), .ref (w 3), .ref (w 4), .int 0, .int 0, .int (-1), .int 0])), (w 0, .inr (0, [.int 0, .int 0, .ref (w 5), .ref (w 6), .ref (w 7), .ref (w 8)]))]) hE hP [0, 1, 2] rfl)⟩ rfl rfl hl.1 rfl (lv_room (Nat.le_of_ble_eq_true rfl)) dX10_bestGate_1 ⟨(Nat.le_of_ble_eq_true rfl), (Nat.le_of_ble_eq_true rfl)⟩) (fun r_1 hr_1 => ?_)
  obtain rfl : r_1 = 0 := hr_1
  refine lv_if_eq (tgt := 26) hx hb dX10_bestGate_4 (by decide) (fun _ => ?_) (fun h9 => absurd h9 (by decide))
  refine lv_bipush (v := (-2)) hx hb dX10_bestGate_26 (by decide) ?_
  exact W.iret (v := (-2)) hx hb hr (fun t ht hW => ⟨(-2), rfl, rfl, ht⟩) (fun _ h9 => absurd h9 List.not_mem_nil) dX10_bestGate_28
set_option maxHeartbeats 4000000 in
set_option maxRecDepth 100000 in
theorem c_X10_bestWinds (l : Launch) (G : va_G) (k : Nat → ClassId) (sa : Nat → Nat) (h0 : Nat) (v : Nat → Nat) (w : Nat → Nat) (a : Int32) (b : Int32) : Met l yX10_bestWinds vs_c_X10_bestWinds ({ frames := 1, cells := 0, slots := 0, locals := 20 } : Room) (gR G k sa [.ref h0, .int a, .int b] [(h0, .inr (10, [.ref (v 0), .ref (v 1), .ref (v 2), .ref (v 3), .ref (v 4), .int 0, .ref (v 5), .ref (v 6), .ref (v 7), .ref (v 8), .ref (v 9), .ref (v 10), .ref (v 11), .ref (v 12), .ref (v 13), .int 0])), (v 5, .inr (9, [.ref (w 0), .ref (w 1), .ref (w 2), .ref (w 3), .ref (w 4), .int 0, .int 0, .int (-1), .int 0])), (w 0, .inr (0, [.int 0, .int 0, .ref (w 5), .ref (w 6), .ref (w 7), .ref (w 8)]))]) (vp_Si (fun r => r = (-2))) 0 0 (fun _ => False) := by
  refine gz_metR (cc := cX10_bestWinds) (maxL := 9) (ret := (some .int)) (by decide) rfl (Nat.le_of_ble_eq_true rfl) ?_
  intro p_ e_ s_ m below_ meth_ c_ ls hx hb hr hml hts hown hlocks hP hE hl
  have hl : lv_has ls 9 [(0, .ref h0), (1, .int a), (2, .int b)] := hl
  refine lv_aload_n hx hb dX10_bestWinds_0 rfl (lv_at hl 0 rfl) ?_
  refine vp_callSi (W.runV (As := []) (rest := []) ⟨hx, hb, hml, hown, hts⟩ (c_X10_isTold l G k sa h0 v w) (cwV 0 hts g_c_X10_bestWinds_158_c_X10_isTold rfl rfl rfl (by decide +kernel) ⟨(Nat.le_of_ble_eq_true rfl), (Nat.le_of_ble_eq_true rfl)⟩) ⟨gR.bl, va_recv hE.K hP (ci := 10) (q0 := 0) rfl rfl, (gR.pre (wc := [(h0, .inr (10, [.ref (v 0), .ref (v 1), .ref (v 2), .ref (v 3), .ref (v 4), .int 0, .ref (v 5), .ref (v 6), .ref (v 7), .ref (v 8), .ref (v 9), .ref (v 10), .ref (v 11), .ref (v 12), .ref (v 13), .int 0])), (v 5, .inr (9, [.ref (w 0), .ref (w 1), .ref (w 2), .ref (w 3), .ref (w 4), .int 0, .int 0, .int (-1), .int 0])), (w 0, .inr (0, [.int 0, .int 0, .ref (w 5), .ref (w 6), .ref (w 7), .ref (w 8)]))]) hE hP [0, 1, 2] rfl)⟩ rfl rfl hl.1 rfl (lv_room (Nat.le_of_ble_eq_true rfl)) dX10_bestWinds_1 ⟨(Nat.le_of_ble_eq_true rfl), (Nat.le_of_ble_eq_true rfl)⟩) (fun r_1 hr_1 => ?_)
  obtain rfl : r_1 = 0 := hr_1
  refine lv_if_eq (tgt := 26) hx hb dX10_bestWinds_4 (by decide) (fun _ => ?_) (fun h9 => absurd h9 (by decide))
  refine lv_bipush (v := (-2)) hx hb dX10_bestWinds_26 (by decide) ?_
  exact W.iret (v := (-2)) hx hb hr (fun t ht hW => ⟨(-2), rfl, rfl, ht⟩) (fun _ h9 => absurd h9 List.not_mem_nil) dX10_bestWinds_28
set_option maxHeartbeats 4000000 in
set_option maxRecDepth 100000 in
theorem c_X10_rests (l : Launch) (G : va_G) (k : Nat → ClassId) (sa : Nat → Nat) (h0 : Nat) (v : Nat → Nat) (w : Nat → Nat) (a : Int32) (b : Int32) (c : Int32) (d : Int32) : Met l yX10_rests vs_c_X10_rests ({ frames := 3, cells := 0, slots := 0, locals := 65 } : Room) (gR G k sa [.ref h0, .int a, .int b, .int c, .int d] [(h0, .inr (10, [.ref (v 0), .ref (v 1), .ref (v 2), .ref (v 3), .ref (v 4), .int 0, .ref (v 5), .ref (v 6), .ref (v 7), .ref (v 8), .ref (v 9), .ref (v 10), .ref (v 11), .ref (v 12), .ref (v 13), .int 0])), (v 5, .inr (9, [.ref (w 0), .ref (w 1), .ref (w 2), .ref (w 3), .ref (w 4), .int 0, .int 0, .int (-1), .int 0])), (w 1, .inr (2, [.int 0, .int 0, .long 0, .ref (w 13), .ref (w 14), .ref (w 15), .ref (w 16)]))]) (vp_Si (fun r => r = (-1))) 0 0 (fun _ => False) := by
  refine gz_metR (cc := cX10_rests) (maxL := 8) (ret := (some .int)) (by decide) rfl (Nat.le_of_ble_eq_true rfl) ?_
  intro p_ e_ s_ m below_ meth_ c_ ls hx hb hr hml hts hown hlocks hP hE hl
  have hl : lv_has ls 8 [(0, .ref h0), (1, .int a), (2, .int b), (3, .int c), (4, .int d)] := hl
  refine lv_aload_n hx hb dX10_rests_0 rfl (lv_at hl 0 rfl) ?_
  refine lv_iload_n hx hb dX10_rests_1 rfl (lv_at hl 1 rfl) ?_
  refine lv_iconst (v := 0) hx hb dX10_rests_2 (by decide) ?_
  refine vp_callSi (W.runV (As := [.int a, .int 0]) (rest := []) ⟨hx, hb, hml, hown, hts⟩ (c_X10_isOn l G k sa h0 v w a 0) (cwV 2 hts g_c_X10_rests_237_c_X10_isOn rfl rfl rfl (by decide +kernel) ⟨(Nat.le_of_ble_eq_true rfl), (Nat.le_of_ble_eq_true rfl)⟩) ⟨gR.bl, va_recv hE.K hP (ci := 10) (q0 := 0) rfl rfl, (gR.pre (wc := [(h0, .inr (10, [.ref (v 0), .ref (v 1), .ref (v 2), .ref (v 3), .ref (v 4), .int 0, .ref (v 5), .ref (v 6), .ref (v 7), .ref (v 8), .ref (v 9), .ref (v 10), .ref (v 11), .ref (v 12), .ref (v 13), .int 0])), (v 5, .inr (9, [.ref (w 0), .ref (w 1), .ref (w 2), .ref (w 3), .ref (w 4), .int 0, .int 0, .int (-1), .int 0])), (w 1, .inr (2, [.int 0, .int 0, .long 0, .ref (w 13), .ref (w 14), .ref (w 15), .ref (w 16)]))]) hE hP [0, 1, 2] rfl)⟩ rfl rfl hl.1 rfl (lv_room (Nat.le_of_ble_eq_true rfl)) dX10_rests_3 ⟨(Nat.le_of_ble_eq_true rfl), (Nat.le_of_ble_eq_true rfl)⟩) (fun r_1 hr_1 => ?_)
  obtain rfl : r_1 = 0 := hr_1
  refine lv_if_eq (tgt := 23) hx hb dX10_rests_6 (by decide) (fun _ => ?_) (fun h9 => absurd h9 (by decide))
  refine lv_iconst (v := (-1)) hx hb dX10_rests_23 (by decide) ?_
  exact W.iret (v := (-1)) hx hb hr (fun t ht hW => ⟨(-1), rfl, rfl, ht⟩) (fun _ h9 => absurd h9 List.not_mem_nil) dX10_rests_24
set_option maxHeartbeats 4000000 in
set_option maxRecDepth 100000 in
theorem c_X10_pence (l : Launch) (G : va_G) (k : Nat → ClassId) (sa : Nat → Nat) (h0 : Nat) (v : Nat → Nat) (w : Nat → Nat) (a : Int32) (b : Int32) : Met l yX10_pence vs_c_X10_pence ({ frames := 2, cells := 0, slots := 0, locals := 43 } : Room) (gR G k sa [.ref h0, .int a, .int b] [(h0, .inr (10, [.ref (v 0), .ref (v 1), .ref (v 2), .ref (v 3), .ref (v 4), .int 0, .ref (v 5), .ref (v 6), .ref (v 7), .ref (v 8), .ref (v 9), .ref (v 10), .ref (v 11), .ref (v 12), .ref (v 13), .int 0])), (v 5, .inr (9, [.ref (w 0), .ref (w 1), .ref (w 2), .ref (w 3), .ref (w 4), .int 0, .int 0, .int (-1), .int 0])), (w 1, .inr (2, [.int 0, .int 0, .long 0, .ref (w 13), .ref (w 14), .ref (w 15), .ref (w 16)]))]) (vp_Si (fun r => r = (-1))) 0 0 (fun _ => False) := by
  refine gz_metR (cc := cX10_pence) (maxL := 10) (ret := (some .int)) (by decide) rfl (Nat.le_of_ble_eq_true rfl) ?_
  intro p_ e_ s_ m below_ meth_ c_ ls hx hb hr hml hts hown hlocks hP hE hl
  have hl : lv_has ls 10 [(0, .ref h0), (1, .int a), (2, .int b)] := hl
  refine lv_aload_n hx hb dX10_pence_0 rfl (lv_at hl 0 rfl) ?_
  refine lv_iload_n hx hb dX10_pence_1 rfl (lv_at hl 2 rfl) ?_
  refine vp_callSi (W.runV (As := [.int b]) (rest := []) ⟨hx, hb, hml, hown, hts⟩ (c_X10_isPerson l G k sa h0 v w b) (cwV 1 hts g_c_X10_pence_139_c_X10_isPerson rfl rfl rfl (by decide +kernel) ⟨(Nat.le_of_ble_eq_true rfl), (Nat.le_of_ble_eq_true rfl)⟩) ⟨gR.bl, va_recv hE.K hP (ci := 10) (q0 := 0) rfl rfl, (gR.pre (wc := [(h0, .inr (10, [.ref (v 0), .ref (v 1), .ref (v 2), .ref (v 3), .ref (v 4), .int 0, .ref (v 5), .ref (v 6), .ref (v 7), .ref (v 8), .ref (v 9), .ref (v 10), .ref (v 11), .ref (v 12), .ref (v 13), .int 0])), (v 5, .inr (9, [.ref (w 0), .ref (w 1), .ref (w 2), .ref (w 3), .ref (w 4), .int 0, .int 0, .int (-1), .int 0])), (w 1, .inr (2, [.int 0, .int 0, .long 0, .ref (w 13), .ref (w 14), .ref (w 15), .ref (w 16)]))]) hE hP [0, 1, 2] rfl)⟩ rfl rfl hl.1 rfl (lv_room (Nat.le_of_ble_eq_true rfl)) dX10_pence_2 ⟨(Nat.le_of_ble_eq_true rfl), (Nat.le_of_ble_eq_true rfl)⟩) (fun r_1 hr_1 => ?_)
  obtain rfl : r_1 = 0 := hr_1
  refine lv_if_eq (tgt := 19) hx hb dX10_pence_5 (by decide) (fun _ => ?_) (fun h9 => absurd h9 (by decide))
  refine lv_iconst (v := (-1)) hx hb dX10_pence_19 (by decide) ?_
  exact W.iret (v := (-1)) hx hb hr (fun t ht hW => ⟨(-1), rfl, rfl, ht⟩) (fun _ h9 => absurd h9 List.not_mem_nil) dX10_pence_20
set_option maxHeartbeats 4000000 in
set_option maxRecDepth 100000 in
theorem c_X10_ruled (l : Launch) (G : va_G) (k : Nat → ClassId) (sa : Nat → Nat) (h0 : Nat) (v : Nat → Nat) (w : Nat → Nat) (a : Int32) : Met l yX10_ruled vs_c_X10_ruled ({ frames := 1, cells := 0, slots := 0, locals := 20 } : Room) (gR G k sa [.ref h0, .int a] [(h0, .inr (10, [.ref (v 0), .ref (v 1), .ref (v 2), .ref (v 3), .ref (v 4), .int 0, .ref (v 5), .ref (v 6), .ref (v 7), .ref (v 8), .ref (v 9), .ref (v 10), .ref (v 11), .ref (v 12), .ref (v 13), .int 0])), (v 5, .inr (9, [.ref (w 0), .ref (w 1), .ref (w 2), .ref (w 3), .ref (w 4), .int 0, .int 0, .int (-1), .int 0])), (w 0, .inr (0, [.int 0, .int 0, .ref (w 5), .ref (w 6), .ref (w 7), .ref (w 8)]))]) (vp_Si (fun r => r = (-3))) 0 0 (fun _ => False) := by
  refine gz_metR (cc := cX10_ruled) (maxL := 3) (ret := (some .int)) (by decide) rfl (Nat.le_of_ble_eq_true rfl) ?_
  intro p_ e_ s_ m below_ meth_ c_ ls hx hb hr hml hts hown hlocks hP hE hl
  have hl : lv_has ls 3 [(0, .ref h0), (1, .int a)] := hl
  refine lv_aload_n hx hb dX10_ruled_0 rfl (lv_at hl 0 rfl) ?_
  refine vp_callSi (W.runV (As := []) (rest := []) ⟨hx, hb, hml, hown, hts⟩ (c_X10_isTold l G k sa h0 v w) (cwV 0 hts g_c_X10_ruled_158_c_X10_isTold rfl rfl rfl (by decide +kernel) ⟨(Nat.le_of_ble_eq_true rfl), (Nat.le_of_ble_eq_true rfl)⟩) ⟨gR.bl, va_recv hE.K hP (ci := 10) (q0 := 0) rfl rfl, (gR.pre (wc := [(h0, .inr (10, [.ref (v 0), .ref (v 1), .ref (v 2), .ref (v 3), .ref (v 4), .int 0, .ref (v 5), .ref (v 6), .ref (v 7), .ref (v 8), .ref (v 9), .ref (v 10), .ref (v 11), .ref (v 12), .ref (v 13), .int 0])), (v 5, .inr (9, [.ref (w 0), .ref (w 1), .ref (w 2), .ref (w 3), .ref (w 4), .int 0, .int 0, .int (-1), .int 0])), (w 0, .inr (0, [.int 0, .int 0, .ref (w 5), .ref (w 6), .ref (w 7), .ref (w 8)]))]) hE hP [0, 1, 2] rfl)⟩ rfl rfl hl.1 rfl (lv_room (Nat.le_of_ble_eq_true rfl)) dX10_ruled_1 ⟨(Nat.le_of_ble_eq_true rfl), (Nat.le_of_ble_eq_true rfl)⟩) (fun r_1 hr_1 => ?_)
  obtain rfl : r_1 = 0 := hr_1
  refine lv_if_eq (tgt := 16) hx hb dX10_ruled_4 (by decide) (fun _ => ?_) (fun h9 => absurd h9 (by decide))
  refine lv_bipush (v := (-3)) hx hb dX10_ruled_16 (by decide) ?_
  exact W.iret (v := (-3)) hx hb hr (fun t ht hW => ⟨(-3), rfl, rfl, ht⟩) (fun _ h9 => absurd h9 List.not_mem_nil) dX10_ruled_18
set_option maxHeartbeats 4000000 in
set_option maxRecDepth 100000 in
theorem c_X10_look (l : Launch) (G : va_G) (k : Nat → ClassId) (sa : Nat → Nat) (h0 : Nat) (v : Nat → Nat) (w : Nat → Nat) (a : Int32) (b : Int32) : Met l yX10_look vs_c_X10_look ({ frames := 1, cells := 0, slots := 0, locals := 20 } : Room) (gR G k sa [.ref h0, .int a, .int b] [(h0, .inr (10, [.ref (v 0), .ref (v 1), .ref (v 2), .ref (v 3), .ref (v 4), .int 0, .ref (v 5), .ref (v 6), .ref (v 7), .ref (v 8), .ref (v 9), .ref (v 10), .ref (v 11), .ref (v 12), .ref (v 13), .int 0])), (v 5, .inr (9, [.ref (w 0), .ref (w 1), .ref (w 2), .ref (w 3), .ref (w 4), .int 0, .int 0, .int (-1), .int 0])), (w 0, .inr (0, [.int 0, .int 0, .ref (w 5), .ref (w 6), .ref (w 7), .ref (w 8)]))]) (vp_Si (fun r => r = (-1))) 0 0 (fun _ => False) := by
  refine gz_metR (cc := cX10_look) (maxL := 7) (ret := (some .int)) (by decide) rfl (Nat.le_of_ble_eq_true rfl) ?_
  intro p_ e_ s_ m below_ meth_ c_ ls hx hb hr hml hts hown hlocks hP hE hl
  have hl : lv_has ls 7 [(0, .ref h0), (1, .int a), (2, .int b)] := hl
  refine lv_aload_n hx hb dX10_look_0 rfl (lv_at hl 0 rfl) ?_
  refine vp_callSi (W.runV (As := []) (rest := []) ⟨hx, hb, hml, hown, hts⟩ (c_X10_isTold l G k sa h0 v w) (cwV 0 hts g_c_X10_look_158_c_X10_isTold rfl rfl rfl (by decide +kernel) ⟨(Nat.le_of_ble_eq_true rfl), (Nat.le_of_ble_eq_true rfl)⟩) ⟨gR.bl, va_recv hE.K hP (ci := 10) (q0 := 0) rfl rfl, (gR.pre (wc := [(h0, .inr (10, [.ref (v 0), .ref (v 1), .ref (v 2), .ref (v 3), .ref (v 4), .int 0, .ref (v 5), .ref (v 6), .ref (v 7), .ref (v 8), .ref (v 9), .ref (v 10), .ref (v 11), .ref (v 12), .ref (v 13), .int 0])), (v 5, .inr (9, [.ref (w 0), .ref (w 1), .ref (w 2), .ref (w 3), .ref (w 4), .int 0, .int 0, .int (-1), .int 0])), (w 0, .inr (0, [.int 0, .int 0, .ref (w 5), .ref (w 6), .ref (w 7), .ref (w 8)]))]) hE hP [0, 1, 2] rfl)⟩ rfl rfl hl.1 rfl (lv_room (Nat.le_of_ble_eq_true rfl)) dX10_look_1 ⟨(Nat.le_of_ble_eq_true rfl), (Nat.le_of_ble_eq_true rfl)⟩) (fun r_1 hr_1 => ?_)
  obtain rfl : r_1 = 0 := hr_1
  refine lv_if_eq (tgt := 26) hx hb dX10_look_4 (by decide) (fun _ => ?_) (fun h9 => absurd h9 (by decide))
  refine lv_iconst (v := (-1)) hx hb dX10_look_26 (by decide) ?_
  exact W.iret (v := (-1)) hx hb hr (fun t ht hW => ⟨(-1), rfl, rfl, ht⟩) (fun _ h9 => absurd h9 List.not_mem_nil) dX10_look_27
set_option maxHeartbeats 4000000 in
set_option maxRecDepth 100000 in
theorem c_X10_gusts (l : Launch) (G : va_G) (k : Nat → ClassId) (sa : Nat → Nat) (h0 : Nat) (v : Nat → Nat) (w : Nat → Nat) (a : Int32) (b : Int32) (c : Int32) (d : Int32) : Met l yX10_gusts vs_c_X10_gusts ({ frames := 1, cells := 0, slots := 0, locals := 20 } : Room) (gR G k sa [.ref h0, .int a, .int b, .int c, .int d] [(h0, .inr (10, [.ref (v 0), .ref (v 1), .ref (v 2), .ref (v 3), .ref (v 4), .int 0, .ref (v 5), .ref (v 6), .ref (v 7), .ref (v 8), .ref (v 9), .ref (v 10), .ref (v 11), .ref (v 12), .ref (v 13), .int 0])), (v 5, .inr (9, [.ref (w 0), .ref (w 1), .ref (w 2), .ref (w 3), .ref (w 4), .int 0, .int 0, .int (-1), .int 0])), (w 0, .inr (0, [.int 0, .int 0, .ref (w 5), .ref (w 6), .ref (w 7), .ref (w 8)]))]) (vp_Si (fun r => r = (-1))) 0 0 (fun _ => False) := by
  refine gz_metR (cc := cX10_gusts) (maxL := 11) (ret := (some .int)) (by decide) rfl (Nat.le_of_ble_eq_true rfl) ?_
  intro p_ e_ s_ m below_ meth_ c_ ls hx hb hr hml hts hown hlocks hP hE hl
  have hl : lv_has ls 11 [(0, .ref h0), (1, .int a), (2, .int b), (3, .int c), (4, .int d)] := hl
  refine lv_aload_n hx hb dX10_gusts_0 rfl (lv_at hl 0 rfl) ?_
  refine vp_callSi (W.runV (As := []) (rest := []) ⟨hx, hb, hml, hown, hts⟩ (c_X10_isTold l G k sa h0 v w) (cwV 0 hts g_c_X10_gusts_158_c_X10_isTold rfl rfl rfl (by decide +kernel) ⟨(Nat.le_of_ble_eq_true rfl), (Nat.le_of_ble_eq_true rfl)⟩) ⟨gR.bl, va_recv hE.K hP (ci := 10) (q0 := 0) rfl rfl, (gR.pre (wc := [(h0, .inr (10, [.ref (v 0), .ref (v 1), .ref (v 2), .ref (v 3), .ref (v 4), .int 0, .ref (v 5), .ref (v 6), .ref (v 7), .ref (v 8), .ref (v 9), .ref (v 10), .ref (v 11), .ref (v 12), .ref (v 13), .int 0])), (v 5, .inr (9, [.ref (w 0), .ref (w 1), .ref (w 2), .ref (w 3), .ref (w 4), .int 0, .int 0, .int (-1), .int 0])), (w 0, .inr (0, [.int 0, .int 0, .ref (w 5), .ref (w 6), .ref (w 7), .ref (w 8)]))]) hE hP [0, 1, 2] rfl)⟩ rfl rfl hl.1 rfl (lv_room (Nat.le_of_ble_eq_true rfl)) dX10_gusts_1 ⟨(Nat.le_of_ble_eq_true rfl), (Nat.le_of_ble_eq_true rfl)⟩) (fun r_1 hr_1 => ?_)
  obtain rfl : r_1 = 0 := hr_1
  refine lv_if_eq (tgt := 27) hx hb dX10_gusts_4 (by decide) (fun _ => ?_) (fun h9 => absurd h9 (by decide))
  refine lv_iconst (v := (-1)) hx hb dX10_gusts_27 (by decide) ?_
  exact W.iret (v := (-1)) hx hb hr (fun t ht hW => ⟨(-1), rfl, rfl, ht⟩) (fun _ h9 => absurd h9 List.not_mem_nil) dX10_gusts_28
